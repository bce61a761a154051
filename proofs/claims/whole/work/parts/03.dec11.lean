theorem dX12_playing_68 : decode cX12_playing 68 = .ok (.imul, 1) := by decide +kernel
theorem dX12_playing_69 : decode cX12_playing 69 = .ok (.iload 5, 2) := by decide +kernel
theorem dX12_playing_71 : decode cX12_playing 71 = .ok (.iadd, 1) := by decide +kernel
theorem dX12_playing_72 : decode cX12_playing 72 = .ok (.aload_n 0, 1) := by decide +kernel
theorem dX12_playing_73 : decode cX12_playing 73 = .ok (.iload 4, 2) := by decide +kernel
theorem dX12_playing_75 : decode cX12_playing 75 = .ok (.iload 5, 2) := by decide +kernel
theorem dX12_playing_77 : decode cX12_playing 77 = .ok (.invokevirtual 456, 3) := by decide +kernel
theorem dX12_playing_80 : decode cX12_playing 80 = .ok (.iastore, 1) := by decide +kernel
theorem dX12_playing_81 : decode cX12_playing 81 = .ok (.iinc 5 1, 3) := by decide +kernel
theorem dX12_playing_84 : decode cX12_playing 84 = .ok (.goto (-38), 3) := by decide +kernel
theorem dX12_playing_87 : decode cX12_playing 87 = .ok (.iinc 4 1, 3) := by decide +kernel
theorem dX12_playing_90 : decode cX12_playing 90 = .ok (.goto (-58), 3) := by decide +kernel
theorem dX12_playing_93 : decode cX12_playing 93 = .ok (.iconst 0, 1) := by decide +kernel
theorem dX12_playing_94 : decode cX12_playing 94 = .ok (.istore 4, 2) := by decide +kernel
theorem dX12_playing_96 : decode cX12_playing 96 = .ok (.iload 4, 2) := by decide +kernel
theorem dX12_playing_98 : decode cX12_playing 98 = .ok (.sipush 2048, 3) := by decide +kernel
theorem dX12_playing_101 : decode cX12_playing 101 = .ok (.if_icmp .ge 23, 3) := by decide +kernel
theorem dX12_playing_104 : decode cX12_playing 104 = .ok (.aload_n 0, 1) := by decide +kernel
theorem dX12_playing_105 : decode cX12_playing 105 = .ok (.getfield 60, 3) := by decide +kernel
theorem dX12_playing_108 : decode cX12_playing 108 = .ok (.iload 4, 2) := by decide +kernel
theorem dX12_playing_110 : decode cX12_playing 110 = .ok (.aload_n 0, 1) := by decide +kernel
theorem dX12_playing_111 : decode cX12_playing 111 = .ok (.getfield 57, 3) := by decide +kernel
theorem dX12_playing_114 : decode cX12_playing 114 = .ok (.iload 4, 2) := by decide +kernel
theorem dX12_playing_116 : decode cX12_playing 116 = .ok (.iaload, 1) := by decide +kernel
theorem dX12_playing_117 : decode cX12_playing 117 = .ok (.iastore, 1) := by decide +kernel
theorem dX12_playing_118 : decode cX12_playing 118 = .ok (.iinc 4 1, 3) := by decide +kernel
theorem dX12_playing_121 : decode cX12_playing 121 = .ok (.goto (-25), 3) := by decide +kernel
theorem dX12_playing_124 : decode cX12_playing 124 = .ok (.iinc 3 1, 3) := by decide +kernel
theorem dX12_playing_127 : decode cX12_playing 127 = .ok (.goto (-103), 3) := by decide +kernel
theorem dX12_playing_130 : decode cX12_playing 130 = .ok (.iload_n 2, 1) := by decide +kernel
theorem dX12_playing_131 : decode cX12_playing 131 = .ok (.ifCond .ne 7, 3) := by decide +kernel
theorem dX12_playing_134 : decode cX12_playing 134 = .ok (.iconst 0, 1) := by decide +kernel
theorem dX12_playing_135 : decode cX12_playing 135 = .ok (.goto 9, 3) := by decide +kernel
theorem dX12_playing_138 : decode cX12_playing 138 = .ok (.aload_n 0, 1) := by decide +kernel
theorem dX12_playing_139 : decode cX12_playing 139 = .ok (.iload_n 1, 1) := by decide +kernel
theorem dX12_playing_140 : decode cX12_playing 140 = .ok (.iconst 0, 1) := by decide +kernel
theorem dX12_playing_141 : decode cX12_playing 141 = .ok (.invokevirtual 456, 3) := by decide +kernel
theorem dX12_playing_144 : decode cX12_playing 144 = .ok (.ireturn, 1) := by decide +kernel
theorem dX12_game_0 : decode cX12_game 0 = .ok (.aload_n 0, 1) := by decide +kernel
theorem dX12_game_1 : decode cX12_game 1 = .ok (.iload_n 1, 1) := by decide +kernel
theorem dX12_game_2 : decode cX12_game 2 = .ok (.invokevirtual 311, 3) := by decide +kernel
theorem dX12_game_5 : decode cX12_game 5 = .ok (.ifCond .eq 28, 3) := by decide +kernel
theorem dX12_game_8 : decode cX12_game 8 = .ok (.iload_n 2, 1) := by decide +kernel
theorem dX12_game_9 : decode cX12_game 9 = .ok (.i2l, 1) := by decide +kernel
theorem dX12_game_10 : decode cX12_game 10 = .ok (.lconst 0, 1) := by decide +kernel
theorem dX12_game_11 : decode cX12_game 11 = .ok (.ldc2_w 459, 3) := by decide +kernel
theorem dX12_game_14 : decode cX12_game 14 = .ok (.invokestatic 359, 3) := by decide +kernel
theorem dX12_game_17 : decode cX12_game 17 = .ok (.ifCond .eq 16, 3) := by decide +kernel
theorem dX12_game_20 : decode cX12_game 20 = .ok (.aload_n 0, 1) := by decide +kernel
theorem dX12_game_21 : decode cX12_game 21 = .ok (.aload_n 0, 1) := by decide +kernel
theorem dX12_game_22 : decode cX12_game 22 = .ok (.iload_n 1, 1) := by decide +kernel
theorem dX12_game_23 : decode cX12_game 23 = .ok (.iload_n 2, 1) := by decide +kernel
theorem dX12_game_24 : decode cX12_game 24 = .ok (.invokevirtual 461, 3) := by decide +kernel
theorem dX12_game_27 : decode cX12_game 27 = .ok (.invokevirtual 89, 3) := by decide +kernel
theorem dX12_game_30 : decode cX12_game 30 = .ok (.goto 8, 3) := by decide +kernel
theorem dX12_game_33 : decode cX12_game 33 = .ok (.aload_n 0, 1) := by decide +kernel
theorem dX12_game_34 : decode cX12_game 34 = .ok (.iconst 1, 1) := by decide +kernel
theorem dX12_game_35 : decode cX12_game 35 = .ok (.invokevirtual 85, 3) := by decide +kernel
theorem dX12_game_38 : decode cX12_game 38 = .ok (.ireturn, 1) := by decide +kernel
theorem dX12_moveOf_0 : decode cX12_moveOf 0 = .ok (.aload_n 0, 1) := by decide +kernel
theorem dX12_moveOf_1 : decode cX12_moveOf 1 = .ok (.iload_n 1, 1) := by decide +kernel
theorem dX12_moveOf_2 : decode cX12_moveOf 2 = .ok (.invokevirtual 311, 3) := by decide +kernel
theorem dX12_moveOf_5 : decode cX12_moveOf 5 = .ok (.ifCond .eq 15, 3) := by decide +kernel
theorem dX12_moveOf_8 : decode cX12_moveOf 8 = .ok (.iload_n 2, 1) := by decide +kernel
theorem dX12_moveOf_9 : decode cX12_moveOf 9 = .ok (.i2l, 1) := by decide +kernel
theorem dX12_moveOf_10 : decode cX12_moveOf 10 = .ok (.lconst 1, 1) := by decide +kernel
theorem dX12_moveOf_11 : decode cX12_moveOf 11 = .ok (.ldc2_w 459, 3) := by decide +kernel
theorem dX12_moveOf_14 : decode cX12_moveOf 14 = .ok (.invokestatic 359, 3) := by decide +kernel
theorem dX12_moveOf_17 : decode cX12_moveOf 17 = .ok (.ifCond .ne 9, 3) := by decide +kernel
theorem dX12_moveOf_20 : decode cX12_moveOf 20 = .ok (.aload_n 0, 1) := by decide +kernel
theorem dX12_moveOf_21 : decode cX12_moveOf 21 = .ok (.iconst 1, 1) := by decide +kernel
theorem dX12_moveOf_22 : decode cX12_moveOf 22 = .ok (.invokevirtual 85, 3) := by decide +kernel
theorem dX12_moveOf_25 : decode cX12_moveOf 25 = .ok (.ireturn, 1) := by decide +kernel
theorem dX12_moveOf_26 : decode cX12_moveOf 26 = .ok (.aload_n 0, 1) := by decide +kernel
theorem dX12_moveOf_27 : decode cX12_moveOf 27 = .ok (.iload_n 1, 1) := by decide +kernel
theorem dX12_moveOf_28 : decode cX12_moveOf 28 = .ok (.iload_n 2, 1) := by decide +kernel
theorem dX12_moveOf_29 : decode cX12_moveOf 29 = .ok (.invokevirtual 461, 3) := by decide +kernel
theorem dX12_moveOf_32 : decode cX12_moveOf 32 = .ok (.pop, 1) := by decide +kernel
theorem dX12_moveOf_33 : decode cX12_moveOf 33 = .ok (.aload_n 0, 1) := by decide +kernel
theorem dX12_moveOf_34 : decode cX12_moveOf 34 = .ok (.aload_n 0, 1) := by decide +kernel
theorem dX12_moveOf_35 : decode cX12_moveOf 35 = .ok (.getfield 453, 3) := by decide +kernel
theorem dX12_moveOf_38 : decode cX12_moveOf 38 = .ok (.invokevirtual 89, 3) := by decide +kernel
theorem dX12_moveOf_41 : decode cX12_moveOf 41 = .ok (.ireturn, 1) := by decide +kernel
theorem dX12_falls_0 : decode cX12_falls 0 = .ok (.iload_n 1, 1) := by decide +kernel
theorem dX12_falls_1 : decode cX12_falls 1 = .ok (.i2l, 1) := by decide +kernel
theorem dX12_falls_2 : decode cX12_falls 2 = .ok (.lconst 0, 1) := by decide +kernel
theorem dX12_falls_3 : decode cX12_falls 3 = .ok (.ldc2_w 373, 3) := by decide +kernel
theorem dX12_falls_6 : decode cX12_falls 6 = .ok (.invokestatic 359, 3) := by decide +kernel
theorem dX12_falls_9 : decode cX12_falls 9 = .ok (.ifCond .ne 9, 3) := by decide +kernel
theorem dX12_falls_12 : decode cX12_falls 12 = .ok (.aload_n 0, 1) := by decide +kernel
theorem dX12_falls_13 : decode cX12_falls 13 = .ok (.iconst 1, 1) := by decide +kernel
theorem dX12_falls_14 : decode cX12_falls 14 = .ok (.invokevirtual 92, 3) := by decide +kernel
theorem dX12_falls_17 : decode cX12_falls 17 = .ok (.ireturn, 1) := by decide +kernel
theorem dX12_falls_18 : decode cX12_falls 18 = .ok (.aload_n 0, 1) := by decide +kernel
theorem dX12_falls_19 : decode cX12_falls 19 = .ok (.getfield 7, 3) := by decide +kernel
theorem dX12_falls_22 : decode cX12_falls 22 = .ok (.iconst 2, 1) := by decide +kernel
theorem dX12_falls_23 : decode cX12_falls 23 = .ok (.iaload, 1) := by decide +kernel
theorem dX12_falls_24 : decode cX12_falls 24 = .ok (.aload_n 0, 1) := by decide +kernel
theorem dX12_falls_25 : decode cX12_falls 25 = .ok (.invokevirtual 287, 3) := by decide +kernel
theorem dX12_falls_28 : decode cX12_falls 28 = .ok (.invokestatic 302, 3) := by decide +kernel
theorem dX12_falls_31 : decode cX12_falls 31 = .ok (.isub, 1) := by decide +kernel
theorem dX12_falls_32 : decode cX12_falls 32 = .ok (.istore_n 2, 1) := by decide +kernel
theorem dX12_falls_33 : decode cX12_falls 33 = .ok (.lconst 1, 1) := by decide +kernel
theorem dX12_falls_34 : decode cX12_falls 34 = .ok (.lstore_n 3, 1) := by decide +kernel
theorem dX12_falls_35 : decode cX12_falls 35 = .ok (.iconst 0, 1) := by decide +kernel
theorem dX12_falls_36 : decode cX12_falls 36 = .ok (.istore 5, 2) := by decide +kernel
theorem dX12_falls_38 : decode cX12_falls 38 = .ok (.iload 5, 2) := by decide +kernel
theorem dX12_falls_40 : decode cX12_falls 40 = .ok (.bipush 8, 2) := by decide +kernel
theorem dX12_falls_42 : decode cX12_falls 42 = .ok (.if_icmp .ge 26, 3) := by decide +kernel
theorem dX12_falls_45 : decode cX12_falls 45 = .ok (.aload_n 0, 1) := by decide +kernel
theorem dX12_falls_46 : decode cX12_falls 46 = .ok (.getfield 63, 3) := by decide +kernel
theorem dX12_falls_49 : decode cX12_falls 49 = .ok (.iload 5, 2) := by decide +kernel
theorem dX12_falls_51 : decode cX12_falls 51 = .ok (.iload 5, 2) := by decide +kernel
theorem dX12_falls_53 : decode cX12_falls 53 = .ok (.ifCond .ne 7, 3) := by decide +kernel
theorem dX12_falls_56 : decode cX12_falls 56 = .ok (.lconst 1, 1) := by decide +kernel
theorem dX12_falls_57 : decode cX12_falls 57 = .ok (.goto 4, 3) := by decide +kernel
theorem dX12_falls_60 : decode cX12_falls 60 = .ok (.lconst 0, 1) := by decide +kernel
theorem dX12_falls_61 : decode cX12_falls 61 = .ok (.lastore, 1) := by decide +kernel
theorem dX12_falls_62 : decode cX12_falls 62 = .ok (.iinc 5 1, 3) := by decide +kernel
theorem dX12_falls_65 : decode cX12_falls 65 = .ok (.goto (-27), 3) := by decide +kernel
theorem dX12_falls_68 : decode cX12_falls 68 = .ok (.iconst 0, 1) := by decide +kernel
theorem dX12_falls_69 : decode cX12_falls 69 = .ok (.istore 5, 2) := by decide +kernel
theorem dX12_falls_71 : decode cX12_falls 71 = .ok (.iload 5, 2) := by decide +kernel
theorem dX12_falls_73 : decode cX12_falls 73 = .ok (.iload_n 2, 1) := by decide +kernel
theorem dX12_falls_74 : decode cX12_falls 74 = .ok (.if_icmp .ge 84, 3) := by decide +kernel
theorem dX12_falls_77 : decode cX12_falls 77 = .ok (.bipush 7, 2) := by decide +kernel
theorem dX12_falls_79 : decode cX12_falls 79 = .ok (.istore 6, 2) := by decide +kernel
theorem dX12_falls_81 : decode cX12_falls 81 = .ok (.iload 6, 2) := by decide +kernel
theorem dX12_falls_83 : decode cX12_falls 83 = .ok (.ifCond .lt 63, 3) := by decide +kernel
theorem dX12_falls_86 : decode cX12_falls 86 = .ok (.aload_n 0, 1) := by decide +kernel
theorem dX12_falls_87 : decode cX12_falls 87 = .ok (.getfield 63, 3) := by decide +kernel
theorem dX12_falls_90 : decode cX12_falls 90 = .ok (.iload 6, 2) := by decide +kernel
theorem dX12_falls_92 : decode cX12_falls 92 = .ok (.aload_n 0, 1) := by decide +kernel
theorem dX12_falls_93 : decode cX12_falls 93 = .ok (.getfield 63, 3) := by decide +kernel
theorem dX12_falls_96 : decode cX12_falls 96 = .ok (.iload 6, 2) := by decide +kernel
theorem dX12_falls_98 : decode cX12_falls 98 = .ok (.laload, 1) := by decide +kernel
theorem dX12_falls_99 : decode cX12_falls 99 = .ok (.bipush 16, 2) := by decide +kernel
theorem dX12_falls_101 : decode cX12_falls 101 = .ok (.aload_n 0, 1) := by decide +kernel
theorem dX12_falls_102 : decode cX12_falls 102 = .ok (.getfield 7, 3) := by decide +kernel
theorem dX12_falls_105 : decode cX12_falls 105 = .ok (.bipush 7, 2) := by decide +kernel
theorem dX12_falls_107 : decode cX12_falls 107 = .ok (.iaload, 1) := by decide +kernel
theorem dX12_falls_108 : decode cX12_falls 108 = .ok (.isub, 1) := by decide +kernel
theorem dX12_falls_109 : decode cX12_falls 109 = .ok (.i2l, 1) := by decide +kernel
theorem dX12_falls_110 : decode cX12_falls 110 = .ok (.lmul, 1) := by decide +kernel
theorem dX12_falls_111 : decode cX12_falls 111 = .ok (.iload 6, 2) := by decide +kernel
theorem dX12_falls_113 : decode cX12_falls 113 = .ok (.ifCond .ne 7, 3) := by decide +kernel
theorem dX12_falls_116 : decode cX12_falls 116 = .ok (.lconst 0, 1) := by decide +kernel
theorem dX12_falls_117 : decode cX12_falls 117 = .ok (.goto 21, 3) := by decide +kernel
theorem dX12_falls_120 : decode cX12_falls 120 = .ok (.aload_n 0, 1) := by decide +kernel
theorem dX12_falls_121 : decode cX12_falls 121 = .ok (.getfield 63, 3) := by decide +kernel
theorem dX12_falls_124 : decode cX12_falls 124 = .ok (.iload 6, 2) := by decide +kernel
theorem dX12_falls_126 : decode cX12_falls 126 = .ok (.iconst 1, 1) := by decide +kernel
theorem dX12_falls_127 : decode cX12_falls 127 = .ok (.isub, 1) := by decide +kernel
theorem dX12_falls_128 : decode cX12_falls 128 = .ok (.laload, 1) := by decide +kernel
theorem dX12_falls_129 : decode cX12_falls 129 = .ok (.aload_n 0, 1) := by decide +kernel
theorem dX12_falls_130 : decode cX12_falls 130 = .ok (.getfield 7, 3) := by decide +kernel
theorem dX12_falls_133 : decode cX12_falls 133 = .ok (.bipush 7, 2) := by decide +kernel
theorem dX12_falls_135 : decode cX12_falls 135 = .ok (.iaload, 1) := by decide +kernel
theorem dX12_falls_136 : decode cX12_falls 136 = .ok (.i2l, 1) := by decide +kernel
theorem dX12_falls_137 : decode cX12_falls 137 = .ok (.lmul, 1) := by decide +kernel
theorem dX12_falls_138 : decode cX12_falls 138 = .ok (.ladd, 1) := by decide +kernel
theorem dX12_falls_139 : decode cX12_falls 139 = .ok (.lastore, 1) := by decide +kernel
theorem dX12_falls_140 : decode cX12_falls 140 = .ok (.iinc 6 (-1), 3) := by decide +kernel
theorem dX12_falls_143 : decode cX12_falls 143 = .ok (.goto (-62), 3) := by decide +kernel
theorem dX12_falls_146 : decode cX12_falls 146 = .ok (.lload_n 3, 1) := by decide +kernel
theorem dX12_falls_147 : decode cX12_falls 147 = .ok (.ldc2_w 377, 3) := by decide +kernel
theorem dX12_falls_150 : decode cX12_falls 150 = .ok (.lmul, 1) := by decide +kernel
theorem dX12_falls_151 : decode cX12_falls 151 = .ok (.lstore_n 3, 1) := by decide +kernel
theorem dX12_falls_152 : decode cX12_falls 152 = .ok (.iinc 5 1, 3) := by decide +kernel
theorem dX12_falls_155 : decode cX12_falls 155 = .ok (.goto (-84), 3) := by decide +kernel
theorem dX12_falls_158 : decode cX12_falls 158 = .ok (.lconst 0, 1) := by decide +kernel
theorem dX12_falls_159 : decode cX12_falls 159 = .ok (.lstore 5, 2) := by decide +kernel
theorem dX12_falls_161 : decode cX12_falls 161 = .ok (.iload_n 1, 1) := by decide +kernel
theorem dX12_falls_162 : decode cX12_falls 162 = .ok (.istore 7, 2) := by decide +kernel
theorem dX12_falls_164 : decode cX12_falls 164 = .ok (.iload 7, 2) := by decide +kernel
theorem dX12_falls_166 : decode cX12_falls 166 = .ok (.bipush 8, 2) := by decide +kernel
theorem dX12_falls_168 : decode cX12_falls 168 = .ok (.if_icmp .ge 21, 3) := by decide +kernel
theorem dX12_falls_171 : decode cX12_falls 171 = .ok (.lload 5, 2) := by decide +kernel
theorem dX12_falls_173 : decode cX12_falls 173 = .ok (.aload_n 0, 1) := by decide +kernel
theorem dX12_falls_174 : decode cX12_falls 174 = .ok (.getfield 63, 3) := by decide +kernel
theorem dX12_falls_177 : decode cX12_falls 177 = .ok (.iload 7, 2) := by decide +kernel
theorem dX12_falls_179 : decode cX12_falls 179 = .ok (.laload, 1) := by decide +kernel
theorem dX12_falls_180 : decode cX12_falls 180 = .ok (.ladd, 1) := by decide +kernel
theorem dX12_falls_181 : decode cX12_falls 181 = .ok (.lstore 5, 2) := by decide +kernel
theorem dX12_falls_183 : decode cX12_falls 183 = .ok (.iinc 7 1, 3) := by decide +kernel
theorem dX12_falls_186 : decode cX12_falls 186 = .ok (.goto (-22), 3) := by decide +kernel
theorem dX12_falls_189 : decode cX12_falls 189 = .ok (.aload_n 0, 1) := by decide +kernel
theorem dX12_falls_190 : decode cX12_falls 190 = .ok (.lload 5, 2) := by decide +kernel
theorem dX12_falls_192 : decode cX12_falls 192 = .ok (.lload_n 3, 1) := by decide +kernel
theorem dX12_falls_193 : decode cX12_falls 193 = .ok (.invokevirtual 464, 3) := by decide +kernel
theorem dX12_falls_196 : decode cX12_falls 196 = .ok (.ireturn, 1) := by decide +kernel
theorem dX12_copyStanding_0 : decode cX12_copyStanding 0 = .ok (.iload_n 1, 1) := by decide +kernel
theorem dX12_copyStanding_1 : decode cX12_copyStanding 1 = .ok (.invokestatic 96, 3) := by decide +kernel
theorem dX12_copyStanding_4 : decode cX12_copyStanding 4 = .ok (.ifCond .ne 9, 3) := by decide +kernel
theorem dX12_copyStanding_7 : decode cX12_copyStanding 7 = .ok (.aload_n 0, 1) := by decide +kernel
theorem dX12_copyStanding_8 : decode cX12_copyStanding 8 = .ok (.iconst 1, 1) := by decide +kernel
theorem dX12_copyStanding_9 : decode cX12_copyStanding 9 = .ok (.invokevirtual 85, 3) := by decide +kernel
theorem dX12_copyStanding_12 : decode cX12_copyStanding 12 = .ok (.ireturn, 1) := by decide +kernel
theorem dX12_copyStanding_13 : decode cX12_copyStanding 13 = .ok (.aload_n 0, 1) := by decide +kernel
theorem dX12_copyStanding_14 : decode cX12_copyStanding 14 = .ok (.getfield 24, 3) := by decide +kernel
theorem dX12_copyStanding_17 : decode cX12_copyStanding 17 = .ok (.iload_n 1, 1) := by decide +kernel
theorem dX12_copyStanding_18 : decode cX12_copyStanding 18 = .ok (.iaload, 1) := by decide +kernel
theorem dX12_copyStanding_19 : decode cX12_copyStanding 19 = .ok (.iconst (-1), 1) := by decide +kernel
theorem dX12_copyStanding_20 : decode cX12_copyStanding 20 = .ok (.if_icmp .ne 9, 3) := by decide +kernel
theorem dX12_copyStanding_23 : decode cX12_copyStanding 23 = .ok (.aload_n 0, 1) := by decide +kernel
theorem dX12_copyStanding_24 : decode cX12_copyStanding 24 = .ok (.iconst 2, 1) := by decide +kernel
theorem dX12_copyStanding_25 : decode cX12_copyStanding 25 = .ok (.invokevirtual 85, 3) := by decide +kernel
theorem dX12_copyStanding_28 : decode cX12_copyStanding 28 = .ok (.ireturn, 1) := by decide +kernel
theorem dX12_copyStanding_29 : decode cX12_copyStanding 29 = .ok (.aload_n 0, 1) := by decide +kernel
theorem dX12_copyStanding_30 : decode cX12_copyStanding 30 = .ok (.getfield 24, 3) := by decide +kernel
theorem dX12_copyStanding_33 : decode cX12_copyStanding 33 = .ok (.iload_n 1, 1) := by decide +kernel
theorem dX12_copyStanding_34 : decode cX12_copyStanding 34 = .ok (.iaload, 1) := by decide +kernel
theorem dX12_copyStanding_35 : decode cX12_copyStanding 35 = .ok (.aload_n 0, 1) := by decide +kernel
theorem dX12_copyStanding_36 : decode cX12_copyStanding 36 = .ok (.getfield 7, 3) := by decide +kernel
theorem dX12_copyStanding_39 : decode cX12_copyStanding 39 = .ok (.iconst 0, 1) := by decide +kernel
theorem dX12_copyStanding_40 : decode cX12_copyStanding 40 = .ok (.iaload, 1) := by decide +kernel
theorem dX12_copyStanding_41 : decode cX12_copyStanding 41 = .ok (.if_icmp .ge 9, 3) := by decide +kernel
theorem dX12_copyStanding_44 : decode cX12_copyStanding 44 = .ok (.aload_n 0, 1) := by decide +kernel
theorem dX12_copyStanding_45 : decode cX12_copyStanding 45 = .ok (.iconst 3, 1) := by decide +kernel
theorem dX12_copyStanding_46 : decode cX12_copyStanding 46 = .ok (.invokevirtual 85, 3) := by decide +kernel
theorem dX12_copyStanding_49 : decode cX12_copyStanding 49 = .ok (.ireturn, 1) := by decide +kernel
theorem dX12_copyStanding_50 : decode cX12_copyStanding 50 = .ok (.iconst 0, 1) := by decide +kernel
theorem dX12_copyStanding_51 : decode cX12_copyStanding 51 = .ok (.istore_n 2, 1) := by decide +kernel
theorem dX12_copyStanding_52 : decode cX12_copyStanding 52 = .ok (.iload_n 2, 1) := by decide +kernel
theorem dX12_copyStanding_53 : decode cX12_copyStanding 53 = .ok (.aload_n 0, 1) := by decide +kernel
theorem dX12_copyStanding_54 : decode cX12_copyStanding 54 = .ok (.getfield 7, 3) := by decide +kernel
theorem dX12_copyStanding_57 : decode cX12_copyStanding 57 = .ok (.iconst 0, 1) := by decide +kernel
theorem dX12_copyStanding_58 : decode cX12_copyStanding 58 = .ok (.iaload, 1) := by decide +kernel
theorem dX12_copyStanding_59 : decode cX12_copyStanding 59 = .ok (.if_icmp .ge 38, 3) := by decide +kernel
theorem dX12_copyStanding_62 : decode cX12_copyStanding 62 = .ok (.aload_n 0, 1) := by decide +kernel
theorem dX12_copyStanding_63 : decode cX12_copyStanding 63 = .ok (.getfield 27, 3) := by decide +kernel
theorem dX12_copyStanding_66 : decode cX12_copyStanding 66 = .ok (.bipush 60, 2) := by decide +kernel
theorem dX12_copyStanding_68 : decode cX12_copyStanding 68 = .ok (.iload_n 1, 1) := by decide +kernel
theorem dX12_copyStanding_69 : decode cX12_copyStanding 69 = .ok (.imul, 1) := by decide +kernel
theorem dX12_copyStanding_70 : decode cX12_copyStanding 70 = .ok (.iload_n 2, 1) := by decide +kernel
theorem dX12_copyStanding_71 : decode cX12_copyStanding 71 = .ok (.iadd, 1) := by decide +kernel
theorem dX12_copyStanding_72 : decode cX12_copyStanding 72 = .ok (.aload_n 0, 1) := by decide +kernel
theorem dX12_copyStanding_73 : decode cX12_copyStanding 73 = .ok (.iload_n 2, 1) := by decide +kernel
theorem dX12_copyStanding_74 : decode cX12_copyStanding 74 = .ok (.invokevirtual 299, 3) := by decide +kernel
theorem dX12_copyStanding_77 : decode cX12_copyStanding 77 = .ok (.invokestatic 302, 3) := by decide +kernel
theorem dX12_copyStanding_80 : decode cX12_copyStanding 80 = .ok (.i2l, 1) := by decide +kernel
theorem dX12_copyStanding_81 : decode cX12_copyStanding 81 = .ok (.aload_n 0, 1) := by decide +kernel
theorem dX12_copyStanding_82 : decode cX12_copyStanding 82 = .ok (.getfield 21, 3) := by decide +kernel
theorem dX12_copyStanding_85 : decode cX12_copyStanding 85 = .ok (.iload_n 1, 1) := by decide +kernel
theorem dX12_copyStanding_86 : decode cX12_copyStanding 86 = .ok (.iaload, 1) := by decide +kernel
theorem dX12_copyStanding_87 : decode cX12_copyStanding 87 = .ok (.invokestatic 103, 3) := by decide +kernel
theorem dX12_copyStanding_90 : decode cX12_copyStanding 90 = .ok (.lastore, 1) := by decide +kernel
theorem dX12_copyStanding_91 : decode cX12_copyStanding 91 = .ok (.iinc 2 1, 3) := by decide +kernel
theorem dX12_copyStanding_94 : decode cX12_copyStanding 94 = .ok (.goto (-42), 3) := by decide +kernel
theorem dX12_copyStanding_97 : decode cX12_copyStanding 97 = .ok (.aload_n 0, 1) := by decide +kernel
theorem dX12_copyStanding_98 : decode cX12_copyStanding 98 = .ok (.aload_n 0, 1) := by decide +kernel
theorem dX12_copyStanding_99 : decode cX12_copyStanding 99 = .ok (.getfield 7, 3) := by decide +kernel
theorem dX12_copyStanding_102 : decode cX12_copyStanding 102 = .ok (.iconst 0, 1) := by decide +kernel
theorem dX12_copyStanding_103 : decode cX12_copyStanding 103 = .ok (.iaload, 1) := by decide +kernel
theorem dX12_copyStanding_104 : decode cX12_copyStanding 104 = .ok (.invokevirtual 89, 3) := by decide +kernel
theorem dX12_copyStanding_107 : decode cX12_copyStanding 107 = .ok (.ireturn, 1) := by decide +kernel
theorem dX12_draw_0 : decode cX12_draw 0 = .ok (.aload_n 0, 1) := by decide +kernel
theorem dX12_draw_1 : decode cX12_draw 1 = .ok (.aload_n 0, 1) := by decide +kernel
theorem dX12_draw_2 : decode cX12_draw 2 = .ok (.getfield 468, 3) := by decide +kernel
theorem dX12_draw_5 : decode cX12_draw 5 = .ok (.sipush 3121, 3) := by decide +kernel
theorem dX12_draw_8 : decode cX12_draw 8 = .ok (.imul, 1) := by decide +kernel
theorem dX12_draw_9 : decode cX12_draw 9 = .ok (.sipush 11351, 3) := by decide +kernel
theorem dX12_draw_12 : decode cX12_draw 12 = .ok (.iadd, 1) := by decide +kernel
theorem dX12_draw_13 : decode cX12_draw 13 = .ok (.ldc_w 471, 3) := by decide +kernel
theorem dX12_draw_16 : decode cX12_draw 16 = .ok (.irem, 1) := by decide +kernel
theorem dX12_draw_17 : decode cX12_draw 17 = .ok (.putfield 468, 3) := by decide +kernel
theorem dX12_draw_20 : decode cX12_draw 20 = .ok (.aload_n 0, 1) := by decide +kernel
theorem dX12_draw_21 : decode cX12_draw 21 = .ok (.getfield 468, 3) := by decide +kernel
theorem dX12_draw_24 : decode cX12_draw 24 = .ok (.bipush 8, 2) := by decide +kernel
theorem dX12_draw_26 : decode cX12_draw 26 = .ok (.idiv, 1) := by decide +kernel
theorem dX12_draw_27 : decode cX12_draw 27 = .ok (.iload_n 1, 1) := by decide +kernel
theorem dX12_draw_28 : decode cX12_draw 28 = .ok (.irem, 1) := by decide +kernel
theorem dX12_draw_29 : decode cX12_draw 29 = .ok (.ireturn, 1) := by decide +kernel
theorem dX12_allWarned_0 : decode cX12_allWarned 0 = .ok (.iconst 0, 1) := by decide +kernel
theorem dX12_allWarned_1 : decode cX12_allWarned 1 = .ok (.istore_n 1, 1) := by decide +kernel
theorem dX12_allWarned_2 : decode cX12_allWarned 2 = .ok (.iconst 0, 1) := by decide +kernel
theorem dX12_allWarned_3 : decode cX12_allWarned 3 = .ok (.istore_n 2, 1) := by decide +kernel
theorem dX12_allWarned_4 : decode cX12_allWarned 4 = .ok (.iload_n 2, 1) := by decide +kernel
theorem dX12_allWarned_5 : decode cX12_allWarned 5 = .ok (.aload_n 0, 1) := by decide +kernel
theorem dX12_allWarned_6 : decode cX12_allWarned 6 = .ok (.getfield 7, 3) := by decide +kernel
theorem dX12_allWarned_9 : decode cX12_allWarned 9 = .ok (.iconst 4, 1) := by decide +kernel
theorem dX12_allWarned_10 : decode cX12_allWarned 10 = .ok (.iaload, 1) := by decide +kernel
theorem dX12_allWarned_11 : decode cX12_allWarned 11 = .ok (.if_icmp .ge 18, 3) := by decide +kernel
theorem dX12_allWarned_14 : decode cX12_allWarned 14 = .ok (.iload_n 1, 1) := by decide +kernel
theorem dX12_allWarned_15 : decode cX12_allWarned 15 = .ok (.aload_n 0, 1) := by decide +kernel
theorem dX12_allWarned_16 : decode cX12_allWarned 16 = .ok (.iload_n 2, 1) := by decide +kernel
theorem dX12_allWarned_17 : decode cX12_allWarned 17 = .ok (.iconst 2, 1) := by decide +kernel
theorem dX12_allWarned_18 : decode cX12_allWarned 18 = .ok (.invokevirtual 308, 3) := by decide +kernel
theorem dX12_allWarned_21 : decode cX12_allWarned 21 = .ok (.iadd, 1) := by decide +kernel
theorem dX12_allWarned_22 : decode cX12_allWarned 22 = .ok (.istore_n 1, 1) := by decide +kernel
theorem dX12_allWarned_23 : decode cX12_allWarned 23 = .ok (.iinc 2 1, 3) := by decide +kernel
theorem dX12_allWarned_26 : decode cX12_allWarned 26 = .ok (.goto (-22), 3) := by decide +kernel
theorem dX12_allWarned_29 : decode cX12_allWarned 29 = .ok (.iload_n 1, 1) := by decide +kernel
theorem dX12_allWarned_30 : decode cX12_allWarned 30 = .ok (.ireturn, 1) := by decide +kernel
theorem dX12_hoursBy_0 : decode cX12_hoursBy 0 = .ok (.aload_n 0, 1) := by decide +kernel
theorem dX12_hoursBy_1 : decode cX12_hoursBy 1 = .ok (.getfield 7, 3) := by decide +kernel
theorem dX12_hoursBy_4 : decode cX12_hoursBy 4 = .ok (.bipush 8, 2) := by decide +kernel
theorem dX12_hoursBy_6 : decode cX12_hoursBy 6 = .ok (.iaload, 1) := by decide +kernel
theorem dX12_hoursBy_7 : decode cX12_hoursBy 7 = .ok (.iload_n 1, 1) := by decide +kernel
theorem dX12_hoursBy_8 : decode cX12_hoursBy 8 = .ok (.iadd, 1) := by decide +kernel
theorem dX12_hoursBy_9 : decode cX12_hoursBy 9 = .ok (.sipush 9999, 3) := by decide +kernel
theorem dX12_hoursBy_12 : decode cX12_hoursBy 12 = .ok (.if_icmp .le 5, 3) := by decide +kernel
theorem dX12_hoursBy_15 : decode cX12_hoursBy 15 = .ok (.iconst 0, 1) := by decide +kernel
theorem dX12_hoursBy_16 : decode cX12_hoursBy 16 = .ok (.ireturn, 1) := by decide +kernel
theorem dX12_hoursBy_17 : decode cX12_hoursBy 17 = .ok (.aload_n 0, 1) := by decide +kernel
theorem dX12_hoursBy_18 : decode cX12_hoursBy 18 = .ok (.invokevirtual 472, 3) := by decide +kernel
theorem dX12_hoursBy_21 : decode cX12_hoursBy 21 = .ok (.istore_n 2, 1) := by decide +kernel
theorem dX12_hoursBy_22 : decode cX12_hoursBy 22 = .ok (.aload_n 0, 1) := by decide +kernel
theorem dX12_hoursBy_23 : decode cX12_hoursBy 23 = .ok (.getfield 69, 3) := by decide +kernel
theorem dX12_hoursBy_26 : decode cX12_hoursBy 26 = .ok (.iconst 2, 1) := by decide +kernel
theorem dX12_hoursBy_27 : decode cX12_hoursBy 27 = .ok (.dup2, 1) := by decide +kernel
theorem dX12_hoursBy_28 : decode cX12_hoursBy 28 = .ok (.iaload, 1) := by decide +kernel
theorem dX12_hoursBy_29 : decode cX12_hoursBy 29 = .ok (.aload_n 0, 1) := by decide +kernel
theorem dX12_hoursBy_30 : decode cX12_hoursBy 30 = .ok (.iload_n 1, 1) := by decide +kernel
theorem dX12_hoursBy_31 : decode cX12_hoursBy 31 = .ok (.invokevirtual 363, 3) := by decide +kernel
theorem dX12_hoursBy_34 : decode cX12_hoursBy 34 = .ok (.iadd, 1) := by decide +kernel
theorem dX12_hoursBy_35 : decode cX12_hoursBy 35 = .ok (.iastore, 1) := by decide +kernel
theorem dX12_hoursBy_36 : decode cX12_hoursBy 36 = .ok (.aload_n 0, 1) := by decide +kernel
theorem dX12_hoursBy_37 : decode cX12_hoursBy 37 = .ok (.getfield 69, 3) := by decide +kernel
theorem dX12_hoursBy_40 : decode cX12_hoursBy 40 = .ok (.iconst 1, 1) := by decide +kernel
theorem dX12_hoursBy_41 : decode cX12_hoursBy 41 = .ok (.dup2, 1) := by decide +kernel
theorem dX12_hoursBy_42 : decode cX12_hoursBy 42 = .ok (.iaload, 1) := by decide +kernel
theorem dX12_hoursBy_43 : decode cX12_hoursBy 43 = .ok (.iload_n 1, 1) := by decide +kernel
theorem dX12_hoursBy_44 : decode cX12_hoursBy 44 = .ok (.iadd, 1) := by decide +kernel
theorem dX12_hoursBy_45 : decode cX12_hoursBy 45 = .ok (.iastore, 1) := by decide +kernel
theorem dX12_hoursBy_46 : decode cX12_hoursBy 46 = .ok (.aload_n 0, 1) := by decide +kernel
theorem dX12_hoursBy_47 : decode cX12_hoursBy 47 = .ok (.getfield 69, 3) := by decide +kernel
theorem dX12_hoursBy_50 : decode cX12_hoursBy 50 = .ok (.iconst 3, 1) := by decide +kernel
theorem dX12_hoursBy_51 : decode cX12_hoursBy 51 = .ok (.dup2, 1) := by decide +kernel
theorem dX12_hoursBy_52 : decode cX12_hoursBy 52 = .ok (.iaload, 1) := by decide +kernel
theorem dX12_hoursBy_53 : decode cX12_hoursBy 53 = .ok (.aload_n 0, 1) := by decide +kernel
theorem dX12_hoursBy_54 : decode cX12_hoursBy 54 = .ok (.invokevirtual 472, 3) := by decide +kernel
theorem dX12_hoursBy_57 : decode cX12_hoursBy 57 = .ok (.iload_n 2, 1) := by decide +kernel
theorem dX12_hoursBy_58 : decode cX12_hoursBy 58 = .ok (.isub, 1) := by decide +kernel
theorem dX12_hoursBy_59 : decode cX12_hoursBy 59 = .ok (.iadd, 1) := by decide +kernel
theorem dX12_hoursBy_60 : decode cX12_hoursBy 60 = .ok (.iastore, 1) := by decide +kernel
theorem dX12_hoursBy_61 : decode cX12_hoursBy 61 = .ok (.iconst 1, 1) := by decide +kernel
theorem dX12_hoursBy_62 : decode cX12_hoursBy 62 = .ok (.ireturn, 1) := by decide +kernel
theorem dX12_ordersBy_0 : decode cX12_ordersBy 0 = .ok (.aload_n 0, 1) := by decide +kernel
theorem dX12_ordersBy_1 : decode cX12_ordersBy 1 = .ok (.getfield 7, 3) := by decide +kernel
theorem dX12_ordersBy_4 : decode cX12_ordersBy 4 = .ok (.iload_n 1, 1) := by decide +kernel
theorem dX12_ordersBy_5 : decode cX12_ordersBy 5 = .ok (.invokestatic 211, 3) := by decide +kernel
theorem dX12_ordersBy_8 : decode cX12_ordersBy 8 = .ok (.iconst 2, 1) := by decide +kernel
theorem dX12_ordersBy_9 : decode cX12_ordersBy 9 = .ok (.iadd, 1) := by decide +kernel
theorem dX12_ordersBy_10 : decode cX12_ordersBy 10 = .ok (.dup2, 1) := by decide +kernel
theorem dX12_ordersBy_11 : decode cX12_ordersBy 11 = .ok (.iaload, 1) := by decide +kernel
theorem dX12_ordersBy_12 : decode cX12_ordersBy 12 = .ok (.iconst 1, 1) := by decide +kernel
theorem dX12_ordersBy_13 : decode cX12_ordersBy 13 = .ok (.iload_n 2, 1) := by decide +kernel
theorem dX12_ordersBy_14 : decode cX12_ordersBy 14 = .ok (.ishl, 1) := by decide +kernel
theorem dX12_ordersBy_15 : decode cX12_ordersBy 15 = .ok (.ixor, 1) := by decide +kernel
theorem dX12_ordersBy_16 : decode cX12_ordersBy 16 = .ok (.iastore, 1) := by decide +kernel
theorem dX12_ordersBy_17 : decode cX12_ordersBy 17 = .ok (.iconst 1, 1) := by decide +kernel
theorem dX12_ordersBy_18 : decode cX12_ordersBy 18 = .ok (.ireturn, 1) := by decide +kernel
theorem dX12_fallsAny_0 : decode cX12_fallsAny 0 = .ok (.aload_n 0, 1) := by decide +kernel
theorem dX12_fallsAny_1 : decode cX12_fallsAny 1 = .ok (.getfield 7, 3) := by decide +kernel
theorem dX12_fallsAny_4 : decode cX12_fallsAny 4 = .ok (.iconst 2, 1) := by decide +kernel
theorem dX12_fallsAny_5 : decode cX12_fallsAny 5 = .ok (.iaload, 1) := by decide +kernel
theorem dX12_fallsAny_6 : decode cX12_fallsAny 6 = .ok (.ifCond .ne 5, 3) := by decide +kernel
theorem dX12_fallsAny_9 : decode cX12_fallsAny 9 = .ok (.iconst 0, 1) := by decide +kernel
theorem dX12_fallsAny_10 : decode cX12_fallsAny 10 = .ok (.ireturn, 1) := by decide +kernel
theorem dX12_fallsAny_11 : decode cX12_fallsAny 11 = .ok (.aload_n 0, 1) := by decide +kernel
theorem dX12_fallsAny_12 : decode cX12_fallsAny 12 = .ok (.aload_n 0, 1) := by decide +kernel
theorem dX12_fallsAny_13 : decode cX12_fallsAny 13 = .ok (.getfield 7, 3) := by decide +kernel
theorem dX12_fallsAny_16 : decode cX12_fallsAny 16 = .ok (.iconst 2, 1) := by decide +kernel
theorem dX12_fallsAny_17 : decode cX12_fallsAny 17 = .ok (.iaload, 1) := by decide +kernel
theorem dX12_fallsAny_18 : decode cX12_fallsAny 18 = .ok (.invokevirtual 475, 3) := by decide +kernel
theorem dX12_fallsAny_21 : decode cX12_fallsAny 21 = .ok (.istore_n 1, 1) := by decide +kernel
theorem dX12_fallsAny_22 : decode cX12_fallsAny 22 = .ok (.aload_n 0, 1) := by decide +kernel
theorem dX12_fallsAny_23 : decode cX12_fallsAny 23 = .ok (.iload_n 1, 1) := by decide +kernel
theorem dX12_fallsAny_24 : decode cX12_fallsAny 24 = .ok (.invokevirtual 281, 3) := by decide +kernel
theorem dX12_fallsAny_27 : decode cX12_fallsAny 27 = .ok (.ifCond .ne 5, 3) := by decide +kernel
theorem dX12_fallsAny_30 : decode cX12_fallsAny 30 = .ok (.iconst 0, 1) := by decide +kernel
theorem dX12_fallsAny_31 : decode cX12_fallsAny 31 = .ok (.ireturn, 1) := by decide +kernel
theorem dX12_fallsAny_32 : decode cX12_fallsAny 32 = .ok (.iconst 0, 1) := by decide +kernel
theorem dX12_fallsAny_33 : decode cX12_fallsAny 33 = .ok (.istore_n 2, 1) := by decide +kernel
theorem dX12_fallsAny_34 : decode cX12_fallsAny 34 = .ok (.iload_n 2, 1) := by decide +kernel
theorem dX12_fallsAny_35 : decode cX12_fallsAny 35 = .ok (.aload_n 0, 1) := by decide +kernel
theorem dX12_fallsAny_36 : decode cX12_fallsAny 36 = .ok (.getfield 7, 3) := by decide +kernel
theorem dX12_fallsAny_39 : decode cX12_fallsAny 39 = .ok (.iconst 4, 1) := by decide +kernel
theorem dX12_fallsAny_40 : decode cX12_fallsAny 40 = .ok (.iaload, 1) := by decide +kernel
theorem dX12_fallsAny_41 : decode cX12_fallsAny 41 = .ok (.if_icmp .ge 42, 3) := by decide +kernel
theorem dX12_fallsAny_44 : decode cX12_fallsAny 44 = .ok (.aload_n 0, 1) := by decide +kernel
theorem dX12_fallsAny_45 : decode cX12_fallsAny 45 = .ok (.iload_n 2, 1) := by decide +kernel
theorem dX12_fallsAny_46 : decode cX12_fallsAny 46 = .ok (.iconst 0, 1) := by decide +kernel
theorem dX12_fallsAny_47 : decode cX12_fallsAny 47 = .ok (.invokevirtual 308, 3) := by decide +kernel
theorem dX12_fallsAny_50 : decode cX12_fallsAny 50 = .ok (.aload_n 0, 1) := by decide +kernel
theorem dX12_fallsAny_51 : decode cX12_fallsAny 51 = .ok (.iload_n 1, 1) := by decide +kernel
theorem dX12_fallsAny_52 : decode cX12_fallsAny 52 = .ok (.iconst 0, 1) := by decide +kernel
theorem dX12_fallsAny_53 : decode cX12_fallsAny 53 = .ok (.invokevirtual 275, 3) := by decide +kernel
theorem dX12_fallsAny_56 : decode cX12_fallsAny 56 = .ok (.if_icmp .eq 6, 3) := by decide +kernel
theorem dX12_fallsAny_59 : decode cX12_fallsAny 59 = .ok (.goto 18, 3) := by decide +kernel
theorem dX12_fallsAny_62 : decode cX12_fallsAny 62 = .ok (.aload_n 0, 1) := by decide +kernel
theorem dX12_fallsAny_63 : decode cX12_fallsAny 63 = .ok (.iload_n 2, 1) := by decide +kernel
theorem dX12_fallsAny_64 : decode cX12_fallsAny 64 = .ok (.invokevirtual 351, 3) := by decide +kernel
theorem dX12_fallsAny_67 : decode cX12_fallsAny 67 = .ok (.aload_n 0, 1) := by decide +kernel
theorem dX12_fallsAny_68 : decode cX12_fallsAny 68 = .ok (.getfield 69, 3) := by decide +kernel
theorem dX12_fallsAny_71 : decode cX12_fallsAny 71 = .ok (.iconst 3, 1) := by decide +kernel
theorem dX12_fallsAny_72 : decode cX12_fallsAny 72 = .ok (.dup2, 1) := by decide +kernel
theorem dX12_fallsAny_73 : decode cX12_fallsAny 73 = .ok (.iaload, 1) := by decide +kernel
theorem dX12_fallsAny_74 : decode cX12_fallsAny 74 = .ok (.iconst 1, 1) := by decide +kernel
theorem dX12_fallsAny_75 : decode cX12_fallsAny 75 = .ok (.iadd, 1) := by decide +kernel
theorem dX12_fallsAny_76 : decode cX12_fallsAny 76 = .ok (.iastore, 1) := by decide +kernel
theorem dX12_fallsAny_77 : decode cX12_fallsAny 77 = .ok (.iinc 2 1, 3) := by decide +kernel
theorem dX12_fallsAny_80 : decode cX12_fallsAny 80 = .ok (.goto (-46), 3) := by decide +kernel
theorem dX12_fallsAny_83 : decode cX12_fallsAny 83 = .ok (.iconst 1, 1) := by decide +kernel
theorem dX12_fallsAny_84 : decode cX12_fallsAny 84 = .ok (.ireturn, 1) := by decide +kernel
theorem dX12_does_0 : decode cX12_does 0 = .ok (.aload_n 0, 1) := by decide +kernel
theorem dX12_does_1 : decode cX12_does 1 = .ok (.getfield 7, 3) := by decide +kernel
theorem dX12_does_4 : decode cX12_does 4 = .ok (.iload_n 1, 1) := by decide +kernel
theorem dX12_does_5 : decode cX12_does 5 = .ok (.iconst 1, 1) := by decide +kernel
theorem dX12_does_6 : decode cX12_does 6 = .ok (.iadd, 1) := by decide +kernel
theorem dX12_does_7 : decode cX12_does 7 = .ok (.iaload, 1) := by decide +kernel
theorem dX12_does_8 : decode cX12_does 8 = .ok (.istore_n 2, 1) := by decide +kernel
theorem dX12_does_9 : decode cX12_does 9 = .ok (.aload_n 0, 1) := by decide +kernel
theorem dX12_does_10 : decode cX12_does 10 = .ok (.getfield 7, 3) := by decide +kernel
theorem dX12_does_13 : decode cX12_does 13 = .ok (.iload_n 1, 1) := by decide +kernel
theorem dX12_does_14 : decode cX12_does 14 = .ok (.iaload, 1) := by decide +kernel
theorem dX12_does_15 : decode cX12_does 15 = .ok (.tableswitch 76 11 16 #[37, 76, 76, 43, 57, 71], 37) := by decide +kernel
theorem dX12_does_52 : decode cX12_does 52 = .ok (.aload_n 0, 1) := by decide +kernel
theorem dX12_does_53 : decode cX12_does 53 = .ok (.iload_n 2, 1) := by decide +kernel
theorem dX12_does_54 : decode cX12_does 54 = .ok (.invokevirtual 478, 3) := by decide +kernel
theorem dX12_does_57 : decode cX12_does 57 = .ok (.ireturn, 1) := by decide +kernel
theorem dX12_does_58 : decode cX12_does 58 = .ok (.aload_n 0, 1) := by decide +kernel
theorem dX12_does_59 : decode cX12_does 59 = .ok (.iload_n 2, 1) := by decide +kernel
theorem dX12_does_60 : decode cX12_does 60 = .ok (.aload_n 0, 1) := by decide +kernel
theorem dX12_does_61 : decode cX12_does 61 = .ok (.getfield 7, 3) := by decide +kernel
theorem dX12_does_64 : decode cX12_does 64 = .ok (.iload_n 1, 1) := by decide +kernel
theorem dX12_does_65 : decode cX12_does 65 = .ok (.iconst 2, 1) := by decide +kernel
theorem dX12_does_66 : decode cX12_does 66 = .ok (.iadd, 1) := by decide +kernel
theorem dX12_does_67 : decode cX12_does 67 = .ok (.iaload, 1) := by decide +kernel
theorem dX12_does_68 : decode cX12_does 68 = .ok (.invokevirtual 481, 3) := by decide +kernel
theorem dX12_does_71 : decode cX12_does 71 = .ok (.ireturn, 1) := by decide +kernel
theorem dX12_does_72 : decode cX12_does 72 = .ok (.aload_n 0, 1) := by decide +kernel
theorem dX12_does_73 : decode cX12_does 73 = .ok (.iload_n 2, 1) := by decide +kernel
theorem dX12_does_74 : decode cX12_does 74 = .ok (.aload_n 0, 1) := by decide +kernel
theorem dX12_does_75 : decode cX12_does 75 = .ok (.getfield 7, 3) := by decide +kernel
theorem dX12_does_78 : decode cX12_does 78 = .ok (.iload_n 1, 1) := by decide +kernel
theorem dX12_does_79 : decode cX12_does 79 = .ok (.iconst 2, 1) := by decide +kernel
theorem dX12_does_80 : decode cX12_does 80 = .ok (.iadd, 1) := by decide +kernel
theorem dX12_does_81 : decode cX12_does 81 = .ok (.iaload, 1) := by decide +kernel
theorem dX12_does_82 : decode cX12_does 82 = .ok (.invokevirtual 366, 3) := by decide +kernel
theorem dX12_does_85 : decode cX12_does 85 = .ok (.ireturn, 1) := by decide +kernel
theorem dX12_does_86 : decode cX12_does 86 = .ok (.aload_n 0, 1) := by decide +kernel
theorem dX12_does_87 : decode cX12_does 87 = .ok (.invokevirtual 484, 3) := by decide +kernel
theorem dX12_does_90 : decode cX12_does 90 = .ok (.ireturn, 1) := by decide +kernel
theorem dX12_does_91 : decode cX12_does 91 = .ok (.iconst 1, 1) := by decide +kernel
theorem dX12_does_92 : decode cX12_does 92 = .ok (.ireturn, 1) := by decide +kernel
theorem dX12_holds_0 : decode cX12_holds 0 = .ok (.aload_n 0, 1) := by decide +kernel
theorem dX12_holds_1 : decode cX12_holds 1 = .ok (.getfield 7, 3) := by decide +kernel
theorem dX12_holds_4 : decode cX12_holds 4 = .ok (.iload_n 1, 1) := by decide +kernel
theorem dX12_holds_5 : decode cX12_holds 5 = .ok (.iaload, 1) := by decide +kernel
theorem dX12_holds_6 : decode cX12_holds 6 = .ok (.sipush 1700, 3) := by decide +kernel
theorem dX12_holds_9 : decode cX12_holds 9 = .ok (.isub, 1) := by decide +kernel
theorem dX12_holds_10 : decode cX12_holds 10 = .ok (.istore_n 2, 1) := by decide +kernel
theorem dX12_holds_11 : decode cX12_holds 11 = .ok (.aload_n 0, 1) := by decide +kernel
theorem dX12_holds_12 : decode cX12_holds 12 = .ok (.getfield 7, 3) := by decide +kernel
theorem dX12_holds_15 : decode cX12_holds 15 = .ok (.iload_n 1, 1) := by decide +kernel
theorem dX12_holds_16 : decode cX12_holds 16 = .ok (.iconst 1, 1) := by decide +kernel
theorem dX12_holds_17 : decode cX12_holds 17 = .ok (.iadd, 1) := by decide +kernel
theorem dX12_holds_18 : decode cX12_holds 18 = .ok (.iaload, 1) := by decide +kernel
theorem dX12_holds_19 : decode cX12_holds 19 = .ok (.istore_n 3, 1) := by decide +kernel
theorem dX12_holds_20 : decode cX12_holds 20 = .ok (.iload_n 2, 1) := by decide +kernel
theorem dX12_holds_21 : decode cX12_holds 21 = .ok (.bipush 21, 2) := by decide +kernel
theorem dX12_holds_23 : decode cX12_holds 23 = .ok (.if_icmp .ne 26, 3) := by decide +kernel
theorem dX12_holds_26 : decode cX12_holds 26 = .ok (.aload_n 0, 1) := by decide +kernel
theorem dX12_holds_27 : decode cX12_holds 27 = .ok (.iload_n 3, 1) := by decide +kernel
theorem dX12_holds_28 : decode cX12_holds 28 = .ok (.iconst 3, 1) := by decide +kernel
theorem dX12_holds_29 : decode cX12_holds 29 = .ok (.invokevirtual 278, 3) := by decide +kernel
theorem dX12_holds_32 : decode cX12_holds 32 = .ok (.aload_n 0, 1) := by decide +kernel
theorem dX12_holds_33 : decode cX12_holds 33 = .ok (.getfield 7, 3) := by decide +kernel
theorem dX12_holds_36 : decode cX12_holds 36 = .ok (.iload_n 1, 1) := by decide +kernel
theorem dX12_holds_37 : decode cX12_holds 37 = .ok (.iconst 2, 1) := by decide +kernel
theorem dX12_holds_38 : decode cX12_holds 38 = .ok (.iadd, 1) := by decide +kernel
theorem dX12_holds_39 : decode cX12_holds 39 = .ok (.iaload, 1) := by decide +kernel
theorem dX12_holds_40 : decode cX12_holds 40 = .ok (.if_icmp .ne 7, 3) := by decide +kernel
theorem dX12_holds_43 : decode cX12_holds 43 = .ok (.iconst 1, 1) := by decide +kernel
theorem dX12_holds_44 : decode cX12_holds 44 = .ok (.goto 4, 3) := by decide +kernel
theorem dX12_holds_47 : decode cX12_holds 47 = .ok (.iconst 0, 1) := by decide +kernel
theorem dX12_holds_48 : decode cX12_holds 48 = .ok (.ireturn, 1) := by decide +kernel
theorem dX12_holds_49 : decode cX12_holds 49 = .ok (.iload_n 2, 1) := by decide +kernel
theorem dX12_holds_50 : decode cX12_holds 50 = .ok (.bipush 22, 2) := by decide +kernel
theorem dX12_holds_52 : decode cX12_holds 52 = .ok (.if_icmp .ne 26, 3) := by decide +kernel
theorem dX12_holds_55 : decode cX12_holds 55 = .ok (.aload_n 0, 1) := by decide +kernel
theorem dX12_holds_56 : decode cX12_holds 56 = .ok (.iload_n 3, 1) := by decide +kernel
theorem dX12_holds_57 : decode cX12_holds 57 = .ok (.iconst 0, 1) := by decide +kernel
theorem dX12_holds_58 : decode cX12_holds 58 = .ok (.invokevirtual 275, 3) := by decide +kernel
theorem dX12_holds_61 : decode cX12_holds 61 = .ok (.aload_n 0, 1) := by decide +kernel
theorem dX12_holds_62 : decode cX12_holds 62 = .ok (.getfield 7, 3) := by decide +kernel
theorem dX12_holds_65 : decode cX12_holds 65 = .ok (.iload_n 1, 1) := by decide +kernel
theorem dX12_holds_66 : decode cX12_holds 66 = .ok (.iconst 2, 1) := by decide +kernel
theorem dX12_holds_67 : decode cX12_holds 67 = .ok (.iadd, 1) := by decide +kernel
theorem dX12_holds_68 : decode cX12_holds 68 = .ok (.iaload, 1) := by decide +kernel
theorem dX12_holds_69 : decode cX12_holds 69 = .ok (.if_icmp .ne 7, 3) := by decide +kernel
theorem dX12_holds_72 : decode cX12_holds 72 = .ok (.iconst 1, 1) := by decide +kernel
theorem dX12_holds_73 : decode cX12_holds 73 = .ok (.goto 4, 3) := by decide +kernel
theorem dX12_holds_76 : decode cX12_holds 76 = .ok (.iconst 0, 1) := by decide +kernel
theorem dX12_holds_77 : decode cX12_holds 77 = .ok (.ireturn, 1) := by decide +kernel
theorem dX12_holds_78 : decode cX12_holds 78 = .ok (.iload_n 2, 1) := by decide +kernel
theorem dX12_holds_79 : decode cX12_holds 79 = .ok (.bipush 23, 2) := by decide +kernel
theorem dX12_holds_81 : decode cX12_holds 81 = .ok (.if_icmp .ne 17, 3) := by decide +kernel
theorem dX12_holds_84 : decode cX12_holds 84 = .ok (.aload_n 0, 1) := by decide +kernel
theorem dX12_holds_85 : decode cX12_holds 85 = .ok (.iload_n 3, 1) := by decide +kernel
theorem dX12_holds_86 : decode cX12_holds 86 = .ok (.invokevirtual 333, 3) := by decide +kernel
theorem dX12_holds_89 : decode cX12_holds 89 = .ok (.ifCond .ne 7, 3) := by decide +kernel
theorem dX12_holds_92 : decode cX12_holds 92 = .ok (.iconst 1, 1) := by decide +kernel
theorem dX12_holds_93 : decode cX12_holds 93 = .ok (.goto 4, 3) := by decide +kernel
theorem dX12_holds_96 : decode cX12_holds 96 = .ok (.iconst 0, 1) := by decide +kernel
theorem dX12_holds_97 : decode cX12_holds 97 = .ok (.ireturn, 1) := by decide +kernel
theorem dX12_holds_98 : decode cX12_holds 98 = .ok (.aload_n 0, 1) := by decide +kernel
theorem dX12_holds_99 : decode cX12_holds 99 = .ok (.iload_n 3, 1) := by decide +kernel
theorem dX12_holds_100 : decode cX12_holds 100 = .ok (.iconst 2, 1) := by decide +kernel
theorem dX12_holds_101 : decode cX12_holds 101 = .ok (.invokevirtual 308, 3) := by decide +kernel
theorem dX12_holds_104 : decode cX12_holds 104 = .ok (.istore 4, 2) := by decide +kernel
theorem dX12_holds_106 : decode cX12_holds 106 = .ok (.aload_n 0, 1) := by decide +kernel
theorem dX12_holds_107 : decode cX12_holds 107 = .ok (.getfield 7, 3) := by decide +kernel
theorem dX12_holds_110 : decode cX12_holds 110 = .ok (.iload_n 1, 1) := by decide +kernel
theorem dX12_holds_111 : decode cX12_holds 111 = .ok (.iconst 5, 1) := by decide +kernel
theorem dX12_holds_112 : decode cX12_holds 112 = .ok (.iadd, 1) := by decide +kernel
theorem dX12_holds_113 : decode cX12_holds 113 = .ok (.iaload, 1) := by decide +kernel
theorem dX12_holds_114 : decode cX12_holds 114 = .ok (.bipush 60, 2) := by decide +kernel
theorem dX12_holds_116 : decode cX12_holds 116 = .ok (.if_icmp .ne 24, 3) := by decide +kernel
theorem dX12_holds_119 : decode cX12_holds 119 = .ok (.iload 4, 2) := by decide +kernel
theorem dX12_holds_121 : decode cX12_holds 121 = .ok (.aload_n 0, 1) := by decide +kernel
theorem dX12_holds_122 : decode cX12_holds 122 = .ok (.getfield 7, 3) := by decide +kernel
theorem dX12_holds_125 : decode cX12_holds 125 = .ok (.iload_n 1, 1) := by decide +kernel
theorem dX12_holds_126 : decode cX12_holds 126 = .ok (.iconst 2, 1) := by decide +kernel
theorem dX12_holds_127 : decode cX12_holds 127 = .ok (.iadd, 1) := by decide +kernel
theorem dX12_holds_128 : decode cX12_holds 128 = .ok (.iaload, 1) := by decide +kernel
theorem dX12_holds_129 : decode cX12_holds 129 = .ok (.if_icmp .ge 7, 3) := by decide +kernel
theorem dX12_holds_132 : decode cX12_holds 132 = .ok (.iconst 1, 1) := by decide +kernel
theorem dX12_holds_133 : decode cX12_holds 133 = .ok (.goto 59, 3) := by decide +kernel
theorem dX12_holds_136 : decode cX12_holds 136 = .ok (.iconst 0, 1) := by decide +kernel
theorem dX12_holds_137 : decode cX12_holds 137 = .ok (.goto 55, 3) := by decide +kernel
theorem dX12_holds_140 : decode cX12_holds 140 = .ok (.aload_n 0, 1) := by decide +kernel
theorem dX12_holds_141 : decode cX12_holds 141 = .ok (.getfield 7, 3) := by decide +kernel
theorem dX12_holds_144 : decode cX12_holds 144 = .ok (.iload_n 1, 1) := by decide +kernel
theorem dX12_holds_145 : decode cX12_holds 145 = .ok (.iconst 5, 1) := by decide +kernel
theorem dX12_holds_146 : decode cX12_holds 146 = .ok (.iadd, 1) := by decide +kernel
theorem dX12_holds_147 : decode cX12_holds 147 = .ok (.iaload, 1) := by decide +kernel
theorem dX12_holds_148 : decode cX12_holds 148 = .ok (.bipush 62, 2) := by decide +kernel
theorem dX12_holds_150 : decode cX12_holds 150 = .ok (.if_icmp .ne 24, 3) := by decide +kernel
theorem dX12_holds_153 : decode cX12_holds 153 = .ok (.iload 4, 2) := by decide +kernel
theorem dX12_holds_155 : decode cX12_holds 155 = .ok (.aload_n 0, 1) := by decide +kernel
theorem dX12_holds_156 : decode cX12_holds 156 = .ok (.getfield 7, 3) := by decide +kernel
theorem dX12_holds_159 : decode cX12_holds 159 = .ok (.iload_n 1, 1) := by decide +kernel
theorem dX12_holds_160 : decode cX12_holds 160 = .ok (.iconst 2, 1) := by decide +kernel
theorem dX12_holds_161 : decode cX12_holds 161 = .ok (.iadd, 1) := by decide +kernel
theorem dX12_holds_162 : decode cX12_holds 162 = .ok (.iaload, 1) := by decide +kernel
theorem dX12_holds_163 : decode cX12_holds 163 = .ok (.if_icmp .le 7, 3) := by decide +kernel
theorem dX12_holds_166 : decode cX12_holds 166 = .ok (.iconst 1, 1) := by decide +kernel
theorem dX12_holds_167 : decode cX12_holds 167 = .ok (.goto 25, 3) := by decide +kernel
theorem dX12_holds_170 : decode cX12_holds 170 = .ok (.iconst 0, 1) := by decide +kernel
theorem dX12_holds_171 : decode cX12_holds 171 = .ok (.goto 21, 3) := by decide +kernel
theorem dX12_holds_174 : decode cX12_holds 174 = .ok (.iload 4, 2) := by decide +kernel
theorem dX12_holds_176 : decode cX12_holds 176 = .ok (.aload_n 0, 1) := by decide +kernel
theorem dX12_holds_177 : decode cX12_holds 177 = .ok (.getfield 7, 3) := by decide +kernel
theorem dX12_holds_180 : decode cX12_holds 180 = .ok (.iload_n 1, 1) := by decide +kernel
theorem dX12_holds_181 : decode cX12_holds 181 = .ok (.iconst 2, 1) := by decide +kernel
theorem dX12_holds_182 : decode cX12_holds 182 = .ok (.iadd, 1) := by decide +kernel
theorem dX12_holds_183 : decode cX12_holds 183 = .ok (.iaload, 1) := by decide +kernel
theorem dX12_holds_184 : decode cX12_holds 184 = .ok (.if_icmp .ne 7, 3) := by decide +kernel
theorem dX12_holds_187 : decode cX12_holds 187 = .ok (.iconst 1, 1) := by decide +kernel
theorem dX12_holds_188 : decode cX12_holds 188 = .ok (.goto 4, 3) := by decide +kernel
theorem dX12_holds_191 : decode cX12_holds 191 = .ok (.iconst 0, 1) := by decide +kernel
theorem dX12_holds_192 : decode cX12_holds 192 = .ok (.ireturn, 1) := by decide +kernel
theorem dX12_behindEnds_0 : decode cX12_behindEnds 0 = .ok (.iload_n 1, 1) := by decide +kernel
theorem dX12_behindEnds_1 : decode cX12_behindEnds 1 = .ok (.istore_n 2, 1) := by decide +kernel
theorem dX12_behindEnds_2 : decode cX12_behindEnds 2 = .ok (.iload_n 2, 1) := by decide +kernel
theorem dX12_behindEnds_3 : decode cX12_behindEnds 3 = .ok (.aload_n 0, 1) := by decide +kernel
theorem dX12_behindEnds_4 : decode cX12_behindEnds 4 = .ok (.getfield 7, 3) := by decide +kernel
theorem dX12_behindEnds_7 : decode cX12_behindEnds 7 = .ok (.bipush 9, 2) := by decide +kernel
theorem dX12_behindEnds_9 : decode cX12_behindEnds 9 = .ok (.iaload, 1) := by decide +kernel
theorem dX12_behindEnds_10 : decode cX12_behindEnds 10 = .ok (.if_icmp .ge 105, 3) := by decide +kernel
theorem dX12_behindEnds_13 : decode cX12_behindEnds 13 = .ok (.aload_n 0, 1) := by decide +kernel
theorem dX12_behindEnds_14 : decode cX12_behindEnds 14 = .ok (.getfield 7, 3) := by decide +kernel
theorem dX12_behindEnds_17 : decode cX12_behindEnds 17 = .ok (.bipush 127, 2) := by decide +kernel
theorem dX12_behindEnds_19 : decode cX12_behindEnds 19 = .ok (.bipush 6, 2) := by decide +kernel
theorem dX12_behindEnds_21 : decode cX12_behindEnds 21 = .ok (.iload_n 2, 1) := by decide +kernel
theorem dX12_behindEnds_22 : decode cX12_behindEnds 22 = .ok (.imul, 1) := by decide +kernel
theorem dX12_behindEnds_23 : decode cX12_behindEnds 23 = .ok (.iadd, 1) := by decide +kernel
theorem dX12_behindEnds_24 : decode cX12_behindEnds 24 = .ok (.iaload, 1) := by decide +kernel
theorem dX12_behindEnds_25 : decode cX12_behindEnds 25 = .ok (.bipush 19, 2) := by decide +kernel
theorem dX12_behindEnds_27 : decode cX12_behindEnds 27 = .ok (.if_icmp .ne 88, 3) := by decide +kernel
theorem dX12_behindEnds_30 : decode cX12_behindEnds 30 = .ok (.aload_n 0, 1) := by decide +kernel
theorem dX12_behindEnds_31 : decode cX12_behindEnds 31 = .ok (.getfield 7, 3) := by decide +kernel
theorem dX12_behindEnds_34 : decode cX12_behindEnds 34 = .ok (.bipush 127, 2) := by decide +kernel
theorem dX12_behindEnds_36 : decode cX12_behindEnds 36 = .ok (.bipush 6, 2) := by decide +kernel
theorem dX12_behindEnds_38 : decode cX12_behindEnds 38 = .ok (.iload_n 2, 1) := by decide +kernel
theorem dX12_behindEnds_39 : decode cX12_behindEnds 39 = .ok (.imul, 1) := by decide +kernel
theorem dX12_behindEnds_40 : decode cX12_behindEnds 40 = .ok (.iadd, 1) := by decide +kernel
theorem dX12_behindEnds_41 : decode cX12_behindEnds 41 = .ok (.iconst 4, 1) := by decide +kernel
theorem dX12_behindEnds_42 : decode cX12_behindEnds 42 = .ok (.iadd, 1) := by decide +kernel
theorem dX12_behindEnds_43 : decode cX12_behindEnds 43 = .ok (.iaload, 1) := by decide +kernel
theorem dX12_behindEnds_44 : decode cX12_behindEnds 44 = .ok (.istore_n 3, 1) := by decide +kernel
theorem dX12_behindEnds_45 : decode cX12_behindEnds 45 = .ok (.aload_n 0, 1) := by decide +kernel
theorem dX12_behindEnds_46 : decode cX12_behindEnds 46 = .ok (.getfield 7, 3) := by decide +kernel
theorem dX12_behindEnds_49 : decode cX12_behindEnds 49 = .ok (.bipush 127, 2) := by decide +kernel
theorem dX12_behindEnds_51 : decode cX12_behindEnds 51 = .ok (.bipush 6, 2) := by decide +kernel
theorem dX12_behindEnds_53 : decode cX12_behindEnds 53 = .ok (.iload_n 3, 1) := by decide +kernel
theorem dX12_behindEnds_54 : decode cX12_behindEnds 54 = .ok (.imul, 1) := by decide +kernel
theorem dX12_behindEnds_55 : decode cX12_behindEnds 55 = .ok (.iadd, 1) := by decide +kernel
theorem dX12_behindEnds_56 : decode cX12_behindEnds 56 = .ok (.iaload, 1) := by decide +kernel
theorem dX12_behindEnds_57 : decode cX12_behindEnds 57 = .ok (.bipush 18, 2) := by decide +kernel
theorem dX12_behindEnds_59 : decode cX12_behindEnds 59 = .ok (.if_icmp .ne 16, 3) := by decide +kernel
theorem dX12_behindEnds_62 : decode cX12_behindEnds 62 = .ok (.aload_n 0, 1) := by decide +kernel
theorem dX12_behindEnds_63 : decode cX12_behindEnds 63 = .ok (.getfield 66, 3) := by decide +kernel
theorem dX12_behindEnds_66 : decode cX12_behindEnds 66 = .ok (.iload_n 3, 1) := by decide +kernel
theorem dX12_behindEnds_67 : decode cX12_behindEnds 67 = .ok (.iaload, 1) := by decide +kernel
theorem dX12_behindEnds_68 : decode cX12_behindEnds 68 = .ok (.ifCond .le 7, 3) := by decide +kernel
theorem dX12_behindEnds_71 : decode cX12_behindEnds 71 = .ok (.iconst 1, 1) := by decide +kernel
theorem dX12_behindEnds_72 : decode cX12_behindEnds 72 = .ok (.goto 4, 3) := by decide +kernel
theorem dX12_behindEnds_75 : decode cX12_behindEnds 75 = .ok (.iconst 0, 1) := by decide +kernel
theorem dX12_behindEnds_76 : decode cX12_behindEnds 76 = .ok (.istore 4, 2) := by decide +kernel
theorem dX12_behindEnds_78 : decode cX12_behindEnds 78 = .ok (.aload_n 0, 1) := by decide +kernel
theorem dX12_behindEnds_79 : decode cX12_behindEnds 79 = .ok (.getfield 66, 3) := by decide +kernel
theorem dX12_behindEnds_82 : decode cX12_behindEnds 82 = .ok (.iload_n 3, 1) := by decide +kernel
theorem dX12_behindEnds_83 : decode cX12_behindEnds 83 = .ok (.dup2, 1) := by decide +kernel
theorem dX12_behindEnds_84 : decode cX12_behindEnds 84 = .ok (.iaload, 1) := by decide +kernel
theorem dX12_behindEnds_85 : decode cX12_behindEnds 85 = .ok (.iload 4, 2) := by decide +kernel
theorem dX12_behindEnds_87 : decode cX12_behindEnds 87 = .ok (.ifCond .eq 7, 3) := by decide +kernel
theorem dX12_behindEnds_90 : decode cX12_behindEnds 90 = .ok (.iconst 1, 1) := by decide +kernel
theorem dX12_behindEnds_91 : decode cX12_behindEnds 91 = .ok (.goto 4, 3) := by decide +kernel
theorem dX12_behindEnds_94 : decode cX12_behindEnds 94 = .ok (.iconst 0, 1) := by decide +kernel
theorem dX12_behindEnds_95 : decode cX12_behindEnds 95 = .ok (.isub, 1) := by decide +kernel
theorem dX12_behindEnds_96 : decode cX12_behindEnds 96 = .ok (.iastore, 1) := by decide +kernel
theorem dX12_behindEnds_97 : decode cX12_behindEnds 97 = .ok (.iload 4, 2) := by decide +kernel
theorem dX12_behindEnds_99 : decode cX12_behindEnds 99 = .ok (.ifCond .eq 9, 3) := by decide +kernel
theorem dX12_behindEnds_102 : decode cX12_behindEnds 102 = .ok (.iload_n 3, 1) := by decide +kernel
theorem dX12_behindEnds_103 : decode cX12_behindEnds 103 = .ok (.iconst 1, 1) := by decide +kernel
theorem dX12_behindEnds_104 : decode cX12_behindEnds 104 = .ok (.iadd, 1) := by decide +kernel
theorem dX12_behindEnds_105 : decode cX12_behindEnds 105 = .ok (.goto 6, 3) := by decide +kernel
theorem dX12_behindEnds_108 : decode cX12_behindEnds 108 = .ok (.iload_n 2, 1) := by decide +kernel
theorem dX12_behindEnds_109 : decode cX12_behindEnds 109 = .ok (.iconst 1, 1) := by decide +kernel
theorem dX12_behindEnds_110 : decode cX12_behindEnds 110 = .ok (.iadd, 1) := by decide +kernel
theorem dX12_behindEnds_111 : decode cX12_behindEnds 111 = .ok (.istore_n 2, 1) := by decide +kernel
theorem dX12_behindEnds_112 : decode cX12_behindEnds 112 = .ok (.goto (-110), 3) := by decide +kernel
theorem dX12_behindEnds_115 : decode cX12_behindEnds 115 = .ok (.iload_n 2, 1) := by decide +kernel
theorem dX12_behindEnds_116 : decode cX12_behindEnds 116 = .ok (.ireturn, 1) := by decide +kernel
theorem dX12_lives_0 : decode cX12_lives 0 = .ok (.aload_n 0, 1) := by decide +kernel
theorem dX12_lives_1 : decode cX12_lives 1 = .ok (.iload_n 1, 1) := by decide +kernel
theorem dX12_lives_2 : decode cX12_lives 2 = .ok (.putfield 468, 3) := by decide +kernel
theorem dX12_lives_5 : decode cX12_lives 5 = .ok (.aload_n 0, 1) := by decide +kernel
theorem dX12_lives_6 : decode cX12_lives 6 = .ok (.iconst 0, 1) := by decide +kernel
theorem dX12_lives_7 : decode cX12_lives 7 = .ok (.putfield 487, 3) := by decide +kernel
theorem dX12_lives_10 : decode cX12_lives 10 = .ok (.iconst 0, 1) := by decide +kernel
theorem dX12_lives_11 : decode cX12_lives 11 = .ok (.istore_n 2, 1) := by decide +kernel
theorem dX12_lives_12 : decode cX12_lives 12 = .ok (.iload_n 2, 1) := by decide +kernel
theorem dX12_lives_13 : decode cX12_lives 13 = .ok (.iconst 5, 1) := by decide +kernel
theorem dX12_lives_14 : decode cX12_lives 14 = .ok (.if_icmp .ge 16, 3) := by decide +kernel
theorem dX12_lives_17 : decode cX12_lives 17 = .ok (.aload_n 0, 1) := by decide +kernel
theorem dX12_lives_18 : decode cX12_lives 18 = .ok (.getfield 69, 3) := by decide +kernel
theorem dX12_lives_21 : decode cX12_lives 21 = .ok (.iload_n 2, 1) := by decide +kernel
theorem dX12_lives_22 : decode cX12_lives 22 = .ok (.iconst 0, 1) := by decide +kernel
theorem dX12_lives_23 : decode cX12_lives 23 = .ok (.iastore, 1) := by decide +kernel
theorem dX12_lives_24 : decode cX12_lives 24 = .ok (.iinc 2 1, 3) := by decide +kernel
theorem dX12_lives_27 : decode cX12_lives 27 = .ok (.goto (-15), 3) := by decide +kernel
theorem dX12_lives_30 : decode cX12_lives 30 = .ok (.iconst 0, 1) := by decide +kernel
theorem dX12_lives_31 : decode cX12_lives 31 = .ok (.istore_n 2, 1) := by decide +kernel
theorem dX12_lives_32 : decode cX12_lives 32 = .ok (.iload_n 2, 1) := by decide +kernel
theorem dX12_lives_33 : decode cX12_lives 33 = .ok (.aload_n 0, 1) := by decide +kernel
theorem dX12_lives_34 : decode cX12_lives 34 = .ok (.getfield 7, 3) := by decide +kernel
theorem dX12_lives_37 : decode cX12_lives 37 = .ok (.bipush 9, 2) := by decide +kernel
theorem dX12_lives_39 : decode cX12_lives 39 = .ok (.iaload, 1) := by decide +kernel
theorem dX12_lives_40 : decode cX12_lives 40 = .ok (.if_icmp .ge 144, 3) := by decide +kernel
theorem dX12_lives_43 : decode cX12_lives 43 = .ok (.aload_n 0, 1) := by decide +kernel
theorem dX12_lives_44 : decode cX12_lives 44 = .ok (.getfield 487, 3) := by decide +kernel
theorem dX12_lives_47 : decode cX12_lives 47 = .ok (.sipush 300, 3) := by decide +kernel
theorem dX12_lives_50 : decode cX12_lives 50 = .ok (.if_icmp .ne 11, 3) := by decide +kernel
theorem dX12_lives_53 : decode cX12_lives 53 = .ok (.aload_n 0, 1) := by decide +kernel
theorem dX12_lives_54 : decode cX12_lives 54 = .ok (.getfield 69, 3) := by decide +kernel
theorem dX12_lives_57 : decode cX12_lives 57 = .ok (.iconst 4, 1) := by decide +kernel
theorem dX12_lives_58 : decode cX12_lives 58 = .ok (.iconst 1, 1) := by decide +kernel
theorem dX12_lives_59 : decode cX12_lives 59 = .ok (.iastore, 1) := by decide +kernel
theorem dX12_lives_60 : decode cX12_lives 60 = .ok (.return_, 1) := by decide +kernel
theorem dX12_lives_61 : decode cX12_lives 61 = .ok (.bipush 127, 2) := by decide +kernel
theorem dX12_lives_63 : decode cX12_lives 63 = .ok (.bipush 6, 2) := by decide +kernel
theorem dX12_lives_65 : decode cX12_lives 65 = .ok (.iload_n 2, 1) := by decide +kernel
theorem dX12_lives_66 : decode cX12_lives 66 = .ok (.imul, 1) := by decide +kernel
theorem dX12_lives_67 : decode cX12_lives 67 = .ok (.iadd, 1) := by decide +kernel
theorem dX12_lives_68 : decode cX12_lives 68 = .ok (.istore_n 3, 1) := by decide +kernel
theorem dX12_lives_69 : decode cX12_lives 69 = .ok (.aload_n 0, 1) := by decide +kernel
theorem dX12_lives_70 : decode cX12_lives 70 = .ok (.dup, 1) := by decide +kernel
theorem dX12_lives_71 : decode cX12_lives 71 = .ok (.getfield 487, 3) := by decide +kernel
theorem dX12_lives_74 : decode cX12_lives 74 = .ok (.iconst 1, 1) := by decide +kernel
theorem dX12_lives_75 : decode cX12_lives 75 = .ok (.iadd, 1) := by decide +kernel
theorem dX12_lives_76 : decode cX12_lives 76 = .ok (.putfield 487, 3) := by decide +kernel
theorem dX12_lives_79 : decode cX12_lives 79 = .ok (.aload_n 0, 1) := by decide +kernel
theorem dX12_lives_80 : decode cX12_lives 80 = .ok (.getfield 7, 3) := by decide +kernel
theorem dX12_lives_83 : decode cX12_lives 83 = .ok (.iload_n 3, 1) := by decide +kernel
theorem dX12_lives_84 : decode cX12_lives 84 = .ok (.iaload, 1) := by decide +kernel
theorem dX12_lives_85 : decode cX12_lives 85 = .ok (.bipush 20, 2) := by decide +kernel
theorem dX12_lives_87 : decode cX12_lives 87 = .ok (.if_icmp .ne 4, 3) := by decide +kernel
theorem dX12_lives_90 : decode cX12_lives 90 = .ok (.return_, 1) := by decide +kernel
theorem dX12_lives_91 : decode cX12_lives 91 = .ok (.aload_n 0, 1) := by decide +kernel
theorem dX12_lives_92 : decode cX12_lives 92 = .ok (.getfield 69, 3) := by decide +kernel
theorem dX12_lives_95 : decode cX12_lives 95 = .ok (.iconst 0, 1) := by decide +kernel
theorem dX12_lives_96 : decode cX12_lives 96 = .ok (.dup2, 1) := by decide +kernel
theorem dX12_lives_97 : decode cX12_lives 97 = .ok (.iaload, 1) := by decide +kernel
theorem dX12_lives_98 : decode cX12_lives 98 = .ok (.aload_n 0, 1) := by decide +kernel
theorem dX12_lives_99 : decode cX12_lives 99 = .ok (.iload_n 3, 1) := by decide +kernel
theorem dX12_lives_100 : decode cX12_lives 100 = .ok (.invokevirtual 490, 3) := by decide +kernel
theorem dX12_lives_103 : decode cX12_lives 103 = .ok (.ifCond .eq 7, 3) := by decide +kernel
theorem dX12_lives_106 : decode cX12_lives 106 = .ok (.iconst 0, 1) := by decide +kernel
theorem dX12_lives_107 : decode cX12_lives 107 = .ok (.goto 4, 3) := by decide +kernel
theorem dX12_lives_110 : decode cX12_lives 110 = .ok (.iconst 1, 1) := by decide +kernel
theorem dX12_lives_111 : decode cX12_lives 111 = .ok (.iadd, 1) := by decide +kernel
theorem dX12_lives_112 : decode cX12_lives 112 = .ok (.iastore, 1) := by decide +kernel
theorem dX12_lives_113 : decode cX12_lives 113 = .ok (.aload_n 0, 1) := by decide +kernel
theorem dX12_lives_114 : decode cX12_lives 114 = .ok (.getfield 7, 3) := by decide +kernel
theorem dX12_lives_117 : decode cX12_lives 117 = .ok (.iload_n 3, 1) := by decide +kernel
theorem dX12_lives_118 : decode cX12_lives 118 = .ok (.iaload, 1) := by decide +kernel
theorem dX12_lives_119 : decode cX12_lives 119 = .ok (.bipush 18, 2) := by decide +kernel
theorem dX12_lives_121 : decode cX12_lives 121 = .ok (.if_icmp .ne 19, 3) := by decide +kernel
theorem dX12_lives_124 : decode cX12_lives 124 = .ok (.aload_n 0, 1) := by decide +kernel
theorem dX12_lives_125 : decode cX12_lives 125 = .ok (.getfield 66, 3) := by decide +kernel
theorem dX12_lives_128 : decode cX12_lives 128 = .ok (.iload_n 2, 1) := by decide +kernel
theorem dX12_lives_129 : decode cX12_lives 129 = .ok (.aload_n 0, 1) := by decide +kernel
theorem dX12_lives_130 : decode cX12_lives 130 = .ok (.getfield 7, 3) := by decide +kernel
theorem dX12_lives_133 : decode cX12_lives 133 = .ok (.iload_n 3, 1) := by decide +kernel
theorem dX12_lives_134 : decode cX12_lives 134 = .ok (.iconst 1, 1) := by decide +kernel
theorem dX12_lives_135 : decode cX12_lives 135 = .ok (.iadd, 1) := by decide +kernel
theorem dX12_lives_136 : decode cX12_lives 136 = .ok (.iaload, 1) := by decide +kernel
theorem dX12_lives_137 : decode cX12_lives 137 = .ok (.iconst 1, 1) := by decide +kernel
theorem dX12_lives_138 : decode cX12_lives 138 = .ok (.isub, 1) := by decide +kernel
theorem dX12_lives_139 : decode cX12_lives 139 = .ok (.iastore, 1) := by decide +kernel
theorem dX12_lives_140 : decode cX12_lives 140 = .ok (.aload_n 0, 1) := by decide +kernel
theorem dX12_lives_141 : decode cX12_lives 141 = .ok (.aload_n 0, 1) := by decide +kernel
theorem dX12_lives_142 : decode cX12_lives 142 = .ok (.getfield 7, 3) := by decide +kernel
theorem dX12_lives_145 : decode cX12_lives 145 = .ok (.iload_n 3, 1) := by decide +kernel
theorem dX12_lives_146 : decode cX12_lives 146 = .ok (.iaload, 1) := by decide +kernel
theorem dX12_lives_147 : decode cX12_lives 147 = .ok (.sipush 1700, 3) := by decide +kernel
theorem dX12_lives_150 : decode cX12_lives 150 = .ok (.if_icmp .lt 24, 3) := by decide +kernel
theorem dX12_lives_153 : decode cX12_lives 153 = .ok (.aload_n 0, 1) := by decide +kernel
theorem dX12_lives_154 : decode cX12_lives 154 = .ok (.iload_n 3, 1) := by decide +kernel
theorem dX12_lives_155 : decode cX12_lives 155 = .ok (.invokevirtual 493, 3) := by decide +kernel
theorem dX12_lives_158 : decode cX12_lives 158 = .ok (.ifCond .ne 16, 3) := by decide +kernel
theorem dX12_lives_161 : decode cX12_lives 161 = .ok (.aload_n 0, 1) := by decide +kernel
theorem dX12_lives_162 : decode cX12_lives 162 = .ok (.getfield 7, 3) := by decide +kernel
theorem dX12_lives_165 : decode cX12_lives 165 = .ok (.iload_n 3, 1) := by decide +kernel
theorem dX12_lives_166 : decode cX12_lives 166 = .ok (.iconst 4, 1) := by decide +kernel
theorem dX12_lives_167 : decode cX12_lives 167 = .ok (.iadd, 1) := by decide +kernel
theorem dX12_lives_168 : decode cX12_lives 168 = .ok (.iaload, 1) := by decide +kernel
theorem dX12_lives_169 : decode cX12_lives 169 = .ok (.iconst 1, 1) := by decide +kernel
theorem dX12_lives_170 : decode cX12_lives 170 = .ok (.iadd, 1) := by decide +kernel
theorem dX12_lives_171 : decode cX12_lives 171 = .ok (.goto 6, 3) := by decide +kernel
theorem dX12_lives_174 : decode cX12_lives 174 = .ok (.iload_n 2, 1) := by decide +kernel
theorem dX12_lives_175 : decode cX12_lives 175 = .ok (.iconst 1, 1) := by decide +kernel
theorem dX12_lives_176 : decode cX12_lives 176 = .ok (.iadd, 1) := by decide +kernel
theorem dX12_lives_177 : decode cX12_lives 177 = .ok (.invokevirtual 496, 3) := by decide +kernel
theorem dX12_lives_180 : decode cX12_lives 180 = .ok (.istore_n 2, 1) := by decide +kernel
theorem dX12_lives_181 : decode cX12_lives 181 = .ok (.goto (-149), 3) := by decide +kernel
theorem dX12_lives_184 : decode cX12_lives 184 = .ok (.return_, 1) := by decide +kernel
theorem dX12_live_0 : decode cX12_live 0 = .ok (.iload_n 1, 1) := by decide +kernel
theorem dX12_live_1 : decode cX12_live 1 = .ok (.i2l, 1) := by decide +kernel
theorem dX12_live_2 : decode cX12_live 2 = .ok (.lconst 0, 1) := by decide +kernel
theorem dX12_live_3 : decode cX12_live 3 = .ok (.ldc2_w 499, 3) := by decide +kernel
theorem dX12_live_6 : decode cX12_live 6 = .ok (.invokestatic 359, 3) := by decide +kernel
theorem dX12_live_9 : decode cX12_live 9 = .ok (.ifCond .ne 9, 3) := by decide +kernel
theorem dX12_live_12 : decode cX12_live 12 = .ok (.aload_n 0, 1) := by decide +kernel
theorem dX12_live_13 : decode cX12_live 13 = .ok (.iconst 1, 1) := by decide +kernel
theorem dX12_live_14 : decode cX12_live 14 = .ok (.invokevirtual 85, 3) := by decide +kernel
theorem dX12_live_17 : decode cX12_live 17 = .ok (.ireturn, 1) := by decide +kernel
theorem dX12_live_18 : decode cX12_live 18 = .ok (.aload_n 0, 1) := by decide +kernel
theorem dX12_live_19 : decode cX12_live 19 = .ok (.getfield 7, 3) := by decide +kernel
theorem dX12_live_22 : decode cX12_live 22 = .ok (.bipush 9, 2) := by decide +kernel
theorem dX12_live_24 : decode cX12_live 24 = .ok (.iaload, 1) := by decide +kernel
theorem dX12_live_25 : decode cX12_live 25 = .ok (.iconst (-1), 1) := by decide +kernel
theorem dX12_live_26 : decode cX12_live 26 = .ok (.if_icmp .ne 10, 3) := by decide +kernel
theorem dX12_live_29 : decode cX12_live 29 = .ok (.aload_n 0, 1) := by decide +kernel
theorem dX12_live_30 : decode cX12_live 30 = .ok (.bipush 6, 2) := by decide +kernel
theorem dX12_live_32 : decode cX12_live 32 = .ok (.invokevirtual 85, 3) := by decide +kernel
theorem dX12_live_35 : decode cX12_live 35 = .ok (.ireturn, 1) := by decide +kernel
theorem dX12_live_36 : decode cX12_live 36 = .ok (.aload_n 0, 1) := by decide +kernel
theorem dX12_live_37 : decode cX12_live 37 = .ok (.iload_n 1, 1) := by decide +kernel
theorem dX12_live_38 : decode cX12_live 38 = .ok (.invokevirtual 501, 3) := by decide +kernel
theorem dX12_live_41 : decode cX12_live 41 = .ok (.iconst 0, 1) := by decide +kernel
theorem dX12_live_42 : decode cX12_live 42 = .ok (.istore_n 2, 1) := by decide +kernel
theorem dX12_live_43 : decode cX12_live 43 = .ok (.iload_n 2, 1) := by decide +kernel
theorem dX12_live_44 : decode cX12_live 44 = .ok (.iconst 5, 1) := by decide +kernel
theorem dX12_live_45 : decode cX12_live 45 = .ok (.if_icmp .ge 21, 3) := by decide +kernel
theorem dX12_live_48 : decode cX12_live 48 = .ok (.aload_n 0, 1) := by decide +kernel
theorem dX12_live_49 : decode cX12_live 49 = .ok (.getfield 72, 3) := by decide +kernel
theorem dX12_live_52 : decode cX12_live 52 = .ok (.iload_n 2, 1) := by decide +kernel
theorem dX12_live_53 : decode cX12_live 53 = .ok (.aload_n 0, 1) := by decide +kernel
theorem dX12_live_54 : decode cX12_live 54 = .ok (.getfield 69, 3) := by decide +kernel
theorem dX12_live_57 : decode cX12_live 57 = .ok (.iload_n 2, 1) := by decide +kernel
theorem dX12_live_58 : decode cX12_live 58 = .ok (.iaload, 1) := by decide +kernel
theorem dX12_live_59 : decode cX12_live 59 = .ok (.iastore, 1) := by decide +kernel
theorem dX12_live_60 : decode cX12_live 60 = .ok (.iinc 2 1, 3) := by decide +kernel
theorem dX12_live_63 : decode cX12_live 63 = .ok (.goto (-20), 3) := by decide +kernel
theorem dX12_live_66 : decode cX12_live 66 = .ok (.aload_n 0, 1) := by decide +kernel
theorem dX12_live_67 : decode cX12_live 67 = .ok (.iconst 1, 1) := by decide +kernel
theorem dX12_live_68 : decode cX12_live 68 = .ok (.putfield 504, 3) := by decide +kernel
theorem dX12_live_71 : decode cX12_live 71 = .ok (.aload_n 0, 1) := by decide +kernel
theorem dX12_live_72 : decode cX12_live 72 = .ok (.aload_n 0, 1) := by decide +kernel
theorem dX12_live_73 : decode cX12_live 73 = .ok (.getfield 487, 3) := by decide +kernel
theorem dX12_live_76 : decode cX12_live 76 = .ok (.invokevirtual 89, 3) := by decide +kernel
theorem dX12_live_79 : decode cX12_live 79 = .ok (.ireturn, 1) := by decide +kernel
theorem dX12_lived_0 : decode cX12_lived 0 = .ok (.iload_n 1, 1) := by decide +kernel
theorem dX12_lived_1 : decode cX12_lived 1 = .ok (.ifCond .lt 8, 3) := by decide +kernel
theorem dX12_lived_4 : decode cX12_lived 4 = .ok (.iload_n 1, 1) := by decide +kernel
theorem dX12_lived_5 : decode cX12_lived 5 = .ok (.iconst 4, 1) := by decide +kernel
theorem dX12_lived_6 : decode cX12_lived 6 = .ok (.if_icmp .le 11, 3) := by decide +kernel
theorem dX12_lived_9 : decode cX12_lived 9 = .ok (.aload_n 0, 1) := by decide +kernel
theorem dX12_lived_10 : decode cX12_lived 10 = .ok (.iconst 1, 1) := by decide +kernel
theorem dX12_lived_11 : decode cX12_lived 11 = .ok (.invokevirtual 85, 3) := by decide +kernel
theorem dX12_lived_14 : decode cX12_lived 14 = .ok (.goto 29, 3) := by decide +kernel
theorem dX12_lived_17 : decode cX12_lived 17 = .ok (.aload_n 0, 1) := by decide +kernel
theorem dX12_lived_18 : decode cX12_lived 18 = .ok (.getfield 504, 3) := by decide +kernel
theorem dX12_lived_21 : decode cX12_lived 21 = .ok (.ifCond .eq 16, 3) := by decide +kernel
theorem dX12_lived_24 : decode cX12_lived 24 = .ok (.aload_n 0, 1) := by decide +kernel
theorem dX12_lived_25 : decode cX12_lived 25 = .ok (.aload_n 0, 1) := by decide +kernel
theorem dX12_lived_26 : decode cX12_lived 26 = .ok (.getfield 72, 3) := by decide +kernel
theorem dX12_lived_29 : decode cX12_lived 29 = .ok (.iload_n 1, 1) := by decide +kernel
theorem dX12_lived_30 : decode cX12_lived 30 = .ok (.iaload, 1) := by decide +kernel
theorem dX12_lived_31 : decode cX12_lived 31 = .ok (.invokevirtual 89, 3) := by decide +kernel
theorem dX12_lived_34 : decode cX12_lived 34 = .ok (.goto 9, 3) := by decide +kernel
theorem dX12_lived_37 : decode cX12_lived 37 = .ok (.aload_n 0, 1) := by decide +kernel
theorem dX12_lived_38 : decode cX12_lived 38 = .ok (.bipush 6, 2) := by decide +kernel
theorem dX12_lived_40 : decode cX12_lived 40 = .ok (.invokevirtual 85, 3) := by decide +kernel
theorem dX12_lived_43 : decode cX12_lived 43 = .ok (.ireturn, 1) := by decide +kernel
theorem dX12_mean_0 : decode cX12_mean 0 = .ok (.iload_n 1, 1) := by decide +kernel
theorem dX12_mean_1 : decode cX12_mean 1 = .ok (.i2l, 1) := by decide +kernel
theorem dX12_mean_2 : decode cX12_mean 2 = .ok (.lconst 0, 1) := by decide +kernel
theorem dX12_mean_3 : decode cX12_mean 3 = .ok (.ldc2_w 499, 3) := by decide +kernel
theorem dX12_mean_6 : decode cX12_mean 6 = .ok (.invokestatic 359, 3) := by decide +kernel
theorem dX12_mean_9 : decode cX12_mean 9 = .ok (.ifCond .eq 26, 3) := by decide +kernel
theorem dX12_mean_12 : decode cX12_mean 12 = .ok (.iload_n 2, 1) := by decide +kernel
theorem dX12_mean_13 : decode cX12_mean 13 = .ok (.i2l, 1) := by decide +kernel
theorem dX12_mean_14 : decode cX12_mean 14 = .ok (.lconst 1, 1) := by decide +kernel
theorem dX12_mean_15 : decode cX12_mean 15 = .ok (.ldc2_w 432, 3) := by decide +kernel
theorem dX12_mean_18 : decode cX12_mean 18 = .ok (.invokestatic 359, 3) := by decide +kernel
theorem dX12_mean_21 : decode cX12_mean 21 = .ok (.ifCond .eq 14, 3) := by decide +kernel
theorem dX12_mean_24 : decode cX12_mean 24 = .ok (.iload_n 1, 1) := by decide +kernel
theorem dX12_mean_25 : decode cX12_mean 25 = .ok (.iload_n 2, 1) := by decide +kernel
theorem dX12_mean_26 : decode cX12_mean 26 = .ok (.iadd, 1) := by decide +kernel
theorem dX12_mean_27 : decode cX12_mean 27 = .ok (.iconst 1, 1) := by decide +kernel
theorem dX12_mean_28 : decode cX12_mean 28 = .ok (.isub, 1) := by decide +kernel
theorem dX12_mean_29 : decode cX12_mean 29 = .ok (.sipush 9999, 3) := by decide +kernel
theorem dX12_mean_32 : decode cX12_mean 32 = .ok (.if_icmp .le 9, 3) := by decide +kernel
theorem dX12_mean_35 : decode cX12_mean 35 = .ok (.aload_n 0, 1) := by decide +kernel
theorem dX12_mean_36 : decode cX12_mean 36 = .ok (.iconst 1, 1) := by decide +kernel
theorem dX12_mean_37 : decode cX12_mean 37 = .ok (.invokevirtual 92, 3) := by decide +kernel
theorem dX12_mean_40 : decode cX12_mean 40 = .ok (.ireturn, 1) := by decide +kernel
theorem dX12_mean_41 : decode cX12_mean 41 = .ok (.aload_n 0, 1) := by decide +kernel
theorem dX12_mean_42 : decode cX12_mean 42 = .ok (.getfield 7, 3) := by decide +kernel
theorem dX12_mean_45 : decode cX12_mean 45 = .ok (.bipush 9, 2) := by decide +kernel
theorem dX12_mean_47 : decode cX12_mean 47 = .ok (.iaload, 1) := by decide +kernel
theorem dX12_mean_48 : decode cX12_mean 48 = .ok (.iconst (-1), 1) := by decide +kernel
theorem dX12_mean_49 : decode cX12_mean 49 = .ok (.if_icmp .ne 10, 3) := by decide +kernel
theorem dX12_mean_52 : decode cX12_mean 52 = .ok (.aload_n 0, 1) := by decide +kernel
theorem dX12_mean_53 : decode cX12_mean 53 = .ok (.bipush 6, 2) := by decide +kernel
theorem dX12_mean_55 : decode cX12_mean 55 = .ok (.invokevirtual 92, 3) := by decide +kernel
theorem dX12_mean_58 : decode cX12_mean 58 = .ok (.ireturn, 1) := by decide +kernel
theorem dX12_mean_59 : decode cX12_mean 59 = .ok (.aload_n 0, 1) := by decide +kernel
theorem dX12_mean_60 : decode cX12_mean 60 = .ok (.sipush 2475, 3) := by decide +kernel
theorem dX12_mean_63 : decode cX12_mean 63 = .ok (.invokevirtual 381, 3) := by decide +kernel
theorem dX12_mean_66 : decode cX12_mean 66 = .ok (.lconst 0, 1) := by decide +kernel
theorem dX12_mean_67 : decode cX12_mean 67 = .ok (.lstore_n 3, 1) := by decide +kernel
theorem dX12_mean_68 : decode cX12_mean 68 = .ok (.iconst 0, 1) := by decide +kernel
theorem dX12_mean_69 : decode cX12_mean 69 = .ok (.istore 5, 2) := by decide +kernel
theorem dX12_mean_71 : decode cX12_mean 71 = .ok (.iload 5, 2) := by decide +kernel
theorem dX12_mean_73 : decode cX12_mean 73 = .ok (.iload_n 2, 1) := by decide +kernel
theorem dX12_mean_74 : decode cX12_mean 74 = .ok (.if_icmp .ge 32, 3) := by decide +kernel
theorem dX12_mean_77 : decode cX12_mean 77 = .ok (.aload_n 0, 1) := by decide +kernel
theorem dX12_mean_78 : decode cX12_mean 78 = .ok (.iload_n 1, 1) := by decide +kernel
theorem dX12_mean_79 : decode cX12_mean 79 = .ok (.iload 5, 2) := by decide +kernel
theorem dX12_mean_81 : decode cX12_mean 81 = .ok (.iadd, 1) := by decide +kernel
theorem dX12_mean_82 : decode cX12_mean 82 = .ok (.invokevirtual 501, 3) := by decide +kernel
theorem dX12_mean_85 : decode cX12_mean 85 = .ok (.lload_n 3, 1) := by decide +kernel
theorem dX12_mean_86 : decode cX12_mean 86 = .ok (.aload_n 0, 1) := by decide +kernel
theorem dX12_mean_87 : decode cX12_mean 87 = .ok (.invokevirtual 290, 3) := by decide +kernel
theorem dX12_mean_90 : decode cX12_mean 90 = .ok (.i2l, 1) := by decide +kernel
theorem dX12_mean_91 : decode cX12_mean 91 = .ok (.ladd, 1) := by decide +kernel
theorem dX12_mean_92 : decode cX12_mean 92 = .ok (.lstore_n 3, 1) := by decide +kernel
theorem dX12_mean_93 : decode cX12_mean 93 = .ok (.aload_n 0, 1) := by decide +kernel
theorem dX12_mean_94 : decode cX12_mean 94 = .ok (.sipush 2475, 3) := by decide +kernel
theorem dX12_mean_97 : decode cX12_mean 97 = .ok (.invokevirtual 384, 3) := by decide +kernel
theorem dX12_mean_100 : decode cX12_mean 100 = .ok (.iinc 5 1, 3) := by decide +kernel
theorem dX12_mean_103 : decode cX12_mean 103 = .ok (.goto (-32), 3) := by decide +kernel
theorem dX12_mean_106 : decode cX12_mean 106 = .ok (.aload_n 0, 1) := by decide +kernel
theorem dX12_mean_107 : decode cX12_mean 107 = .ok (.lload_n 3, 1) := by decide +kernel
theorem dX12_mean_108 : decode cX12_mean 108 = .ok (.iload_n 2, 1) := by decide +kernel
theorem dX12_mean_109 : decode cX12_mean 109 = .ok (.i2l, 1) := by decide +kernel
theorem dX12_mean_110 : decode cX12_mean 110 = .ok (.invokevirtual 464, 3) := by decide +kernel
theorem dX12_mean_113 : decode cX12_mean 113 = .ok (.ireturn, 1) := by decide +kernel
theorem dX12_copies_0 : decode cX12_copies 0 = .ok (.iconst 0, 1) := by decide +kernel
theorem dX12_copies_1 : decode cX12_copies 1 = .ok (.istore_n 3, 1) := by decide +kernel
theorem dX12_copies_2 : decode cX12_copies 2 = .ok (.iload_n 3, 1) := by decide +kernel
theorem dX12_copies_3 : decode cX12_copies 3 = .ok (.sipush 495, 3) := by decide +kernel
theorem dX12_copies_6 : decode cX12_copies 6 = .ok (.if_icmp .ge 33, 3) := by decide +kernel
theorem dX12_copies_9 : decode cX12_copies 9 = .ok (.aload_n 0, 1) := by decide +kernel
theorem dX12_copies_10 : decode cX12_copies 10 = .ok (.getfield 7, 3) := by decide +kernel
theorem dX12_copies_13 : decode cX12_copies 13 = .ok (.sipush 495, 3) := by decide +kernel
theorem dX12_copies_16 : decode cX12_copies 16 = .ok (.iload_n 2, 1) := by decide +kernel
theorem dX12_copies_17 : decode cX12_copies 17 = .ok (.imul, 1) := by decide +kernel
theorem dX12_copies_18 : decode cX12_copies 18 = .ok (.iload_n 3, 1) := by decide +kernel
theorem dX12_copies_19 : decode cX12_copies 19 = .ok (.iadd, 1) := by decide +kernel
theorem dX12_copies_20 : decode cX12_copies 20 = .ok (.aload_n 0, 1) := by decide +kernel
theorem dX12_copies_21 : decode cX12_copies 21 = .ok (.getfield 7, 3) := by decide +kernel
theorem dX12_copies_24 : decode cX12_copies 24 = .ok (.sipush 495, 3) := by decide +kernel
theorem dX12_copies_27 : decode cX12_copies 27 = .ok (.iload_n 1, 1) := by decide +kernel
theorem dX12_copies_28 : decode cX12_copies 28 = .ok (.imul, 1) := by decide +kernel
theorem dX12_copies_29 : decode cX12_copies 29 = .ok (.iload_n 3, 1) := by decide +kernel
theorem dX12_copies_30 : decode cX12_copies 30 = .ok (.iadd, 1) := by decide +kernel
theorem dX12_copies_31 : decode cX12_copies 31 = .ok (.iaload, 1) := by decide +kernel
theorem dX12_copies_32 : decode cX12_copies 32 = .ok (.iastore, 1) := by decide +kernel
theorem dX12_copies_33 : decode cX12_copies 33 = .ok (.iinc 3 1, 3) := by decide +kernel
theorem dX12_copies_36 : decode cX12_copies 36 = .ok (.goto (-34), 3) := by decide +kernel
theorem dX12_copies_39 : decode cX12_copies 39 = .ok (.iconst 0, 1) := by decide +kernel
theorem dX12_copies_40 : decode cX12_copies 40 = .ok (.istore_n 3, 1) := by decide +kernel
theorem dX12_copies_41 : decode cX12_copies 41 = .ok (.iload_n 3, 1) := by decide +kernel
theorem dX12_copies_42 : decode cX12_copies 42 = .ok (.bipush 27, 2) := by decide +kernel
theorem dX12_copies_44 : decode cX12_copies 44 = .ok (.if_icmp .ge 31, 3) := by decide +kernel
theorem dX12_copies_47 : decode cX12_copies 47 = .ok (.aload_n 0, 1) := by decide +kernel
theorem dX12_copies_48 : decode cX12_copies 48 = .ok (.getfield 13, 3) := by decide +kernel
theorem dX12_copies_51 : decode cX12_copies 51 = .ok (.bipush 27, 2) := by decide +kernel
theorem dX12_copies_53 : decode cX12_copies 53 = .ok (.iload_n 2, 1) := by decide +kernel
theorem dX12_copies_54 : decode cX12_copies 54 = .ok (.imul, 1) := by decide +kernel
theorem dX12_copies_55 : decode cX12_copies 55 = .ok (.iload_n 3, 1) := by decide +kernel
theorem dX12_copies_56 : decode cX12_copies 56 = .ok (.iadd, 1) := by decide +kernel
theorem dX12_copies_57 : decode cX12_copies 57 = .ok (.aload_n 0, 1) := by decide +kernel
theorem dX12_copies_58 : decode cX12_copies 58 = .ok (.getfield 13, 3) := by decide +kernel
theorem dX12_copies_61 : decode cX12_copies 61 = .ok (.bipush 27, 2) := by decide +kernel
theorem dX12_copies_63 : decode cX12_copies 63 = .ok (.iload_n 1, 1) := by decide +kernel
theorem dX12_copies_64 : decode cX12_copies 64 = .ok (.imul, 1) := by decide +kernel
theorem dX12_copies_65 : decode cX12_copies 65 = .ok (.iload_n 3, 1) := by decide +kernel
theorem dX12_copies_66 : decode cX12_copies 66 = .ok (.iadd, 1) := by decide +kernel
theorem dX12_copies_67 : decode cX12_copies 67 = .ok (.laload, 1) := by decide +kernel
theorem dX12_copies_68 : decode cX12_copies 68 = .ok (.lastore, 1) := by decide +kernel
theorem dX12_copies_69 : decode cX12_copies 69 = .ok (.iinc 3 1, 3) := by decide +kernel
theorem dX12_copies_72 : decode cX12_copies 72 = .ok (.goto (-31), 3) := by decide +kernel
theorem dX12_copies_75 : decode cX12_copies 75 = .ok (.return_, 1) := by decide +kernel
theorem dX12_mark_0 : decode cX12_mark 0 = .ok (.aload_n 0, 1) := by decide +kernel
theorem dX12_mark_1 : decode cX12_mark 1 = .ok (.getfield 508, 3) := by decide +kernel
theorem dX12_mark_4 : decode cX12_mark 4 = .ok (.iconst 3, 1) := by decide +kernel
theorem dX12_mark_5 : decode cX12_mark 5 = .ok (.if_icmp .ne 9, 3) := by decide +kernel
theorem dX12_mark_8 : decode cX12_mark 8 = .ok (.aload_n 0, 1) := by decide +kernel
theorem dX12_mark_9 : decode cX12_mark 9 = .ok (.iconst 4, 1) := by decide +kernel
theorem dX12_mark_10 : decode cX12_mark 10 = .ok (.invokevirtual 85, 3) := by decide +kernel
theorem dX12_mark_13 : decode cX12_mark 13 = .ok (.ireturn, 1) := by decide +kernel
theorem dX12_mark_14 : decode cX12_mark 14 = .ok (.aload_n 0, 1) := by decide +kernel
theorem dX12_mark_15 : decode cX12_mark 15 = .ok (.dup, 1) := by decide +kernel
theorem dX12_mark_16 : decode cX12_mark 16 = .ok (.getfield 508, 3) := by decide +kernel
theorem dX12_mark_19 : decode cX12_mark 19 = .ok (.iconst 1, 1) := by decide +kernel
theorem dX12_mark_20 : decode cX12_mark 20 = .ok (.iadd, 1) := by decide +kernel
theorem dX12_mark_21 : decode cX12_mark 21 = .ok (.putfield 508, 3) := by decide +kernel
theorem dX12_mark_24 : decode cX12_mark 24 = .ok (.aload_n 0, 1) := by decide +kernel
theorem dX12_mark_25 : decode cX12_mark 25 = .ok (.iconst 0, 1) := by decide +kernel
theorem dX12_mark_26 : decode cX12_mark 26 = .ok (.aload_n 0, 1) := by decide +kernel
theorem dX12_mark_27 : decode cX12_mark 27 = .ok (.getfield 508, 3) := by decide +kernel
theorem dX12_mark_30 : decode cX12_mark 30 = .ok (.invokevirtual 511, 3) := by decide +kernel
theorem dX12_mark_33 : decode cX12_mark 33 = .ok (.aload_n 0, 1) := by decide +kernel
theorem dX12_mark_34 : decode cX12_mark 34 = .ok (.aload_n 0, 1) := by decide +kernel
theorem dX12_mark_35 : decode cX12_mark 35 = .ok (.getfield 508, 3) := by decide +kernel
theorem dX12_mark_38 : decode cX12_mark 38 = .ok (.invokevirtual 89, 3) := by decide +kernel
theorem dX12_mark_41 : decode cX12_mark 41 = .ok (.ireturn, 1) := by decide +kernel
theorem dX12_undo_0 : decode cX12_undo 0 = .ok (.aload_n 0, 1) := by decide +kernel
theorem dX12_undo_1 : decode cX12_undo 1 = .ok (.getfield 508, 3) := by decide +kernel
theorem dX12_undo_4 : decode cX12_undo 4 = .ok (.ifCond .ne 10, 3) := by decide +kernel
theorem dX12_undo_7 : decode cX12_undo 7 = .ok (.aload_n 0, 1) := by decide +kernel
theorem dX12_undo_8 : decode cX12_undo 8 = .ok (.bipush 6, 2) := by decide +kernel
theorem dX12_undo_10 : decode cX12_undo 10 = .ok (.invokevirtual 85, 3) := by decide +kernel
theorem dX12_undo_13 : decode cX12_undo 13 = .ok (.ireturn, 1) := by decide +kernel
theorem dX12_undo_14 : decode cX12_undo 14 = .ok (.aload_n 0, 1) := by decide +kernel
theorem dX12_undo_15 : decode cX12_undo 15 = .ok (.aload_n 0, 1) := by decide +kernel
theorem dX12_undo_16 : decode cX12_undo 16 = .ok (.getfield 508, 3) := by decide +kernel
theorem dX12_undo_19 : decode cX12_undo 19 = .ok (.iconst 0, 1) := by decide +kernel
theorem dX12_undo_20 : decode cX12_undo 20 = .ok (.invokevirtual 511, 3) := by decide +kernel
theorem dX12_undo_23 : decode cX12_undo 23 = .ok (.aload_n 0, 1) := by decide +kernel
theorem dX12_undo_24 : decode cX12_undo 24 = .ok (.dup, 1) := by decide +kernel
theorem dX12_undo_25 : decode cX12_undo 25 = .ok (.getfield 508, 3) := by decide +kernel
theorem dX12_undo_28 : decode cX12_undo 28 = .ok (.iconst 1, 1) := by decide +kernel
theorem dX12_undo_29 : decode cX12_undo 29 = .ok (.isub, 1) := by decide +kernel
theorem dX12_undo_30 : decode cX12_undo 30 = .ok (.putfield 508, 3) := by decide +kernel
theorem dX12_undo_33 : decode cX12_undo 33 = .ok (.aload_n 0, 1) := by decide +kernel
theorem dX12_undo_34 : decode cX12_undo 34 = .ok (.aload_n 0, 1) := by decide +kernel
theorem dX12_undo_35 : decode cX12_undo 35 = .ok (.getfield 508, 3) := by decide +kernel
theorem dX12_undo_38 : decode cX12_undo 38 = .ok (.invokevirtual 89, 3) := by decide +kernel
theorem dX12_undo_41 : decode cX12_undo 41 = .ok (.ireturn, 1) := by decide +kernel
