theorem dX8_cover_64 : decode cX8_cover 64 = .ok (.ifCond .eq 27, 3) := by decide +kernel
theorem dX8_cover_67 : decode cX8_cover 67 = .ok (.iload 4, 2) := by decide +kernel
theorem dX8_cover_69 : decode cX8_cover 69 = .ok (.ldc 140, 2) := by decide +kernel
theorem dX8_cover_71 : decode cX8_cover 71 = .ok (.if_icmp .eq 16, 3) := by decide +kernel
theorem dX8_cover_74 : decode cX8_cover 74 = .ok (.iload 5, 2) := by decide +kernel
theorem dX8_cover_76 : decode cX8_cover 76 = .ok (.invokestatic 134, 3) := by decide +kernel
theorem dX8_cover_79 : decode cX8_cover 79 = .ok (.iload 4, 2) := by decide +kernel
theorem dX8_cover_81 : decode cX8_cover 81 = .ok (.invokestatic 134, 3) := by decide +kernel
theorem dX8_cover_84 : decode cX8_cover 84 = .ok (.if_icmp .ge 7, 3) := by decide +kernel
theorem dX8_cover_87 : decode cX8_cover 87 = .ok (.iload 5, 2) := by decide +kernel
theorem dX8_cover_89 : decode cX8_cover 89 = .ok (.istore 4, 2) := by decide +kernel
theorem dX8_cover_91 : decode cX8_cover 91 = .ok (.iinc 5 1, 3) := by decide +kernel
theorem dX8_cover_94 : decode cX8_cover 94 = .ok (.goto (-51), 3) := by decide +kernel
theorem dX8_cover_97 : decode cX8_cover 97 = .ok (.iload_n 3, 1) := by decide +kernel
theorem dX8_cover_98 : decode cX8_cover 98 = .ok (.iconst 1, 1) := by decide +kernel
theorem dX8_cover_99 : decode cX8_cover 99 = .ok (.if_icmp .eq 10, 3) := by decide +kernel
theorem dX8_cover_102 : decode cX8_cover 102 = .ok (.iload 4, 2) := by decide +kernel
theorem dX8_cover_104 : decode cX8_cover 104 = .ok (.ldc 140, 2) := by decide +kernel
theorem dX8_cover_106 : decode cX8_cover 106 = .ok (.if_icmp .ne 8, 3) := by decide +kernel
theorem dX8_cover_109 : decode cX8_cover 109 = .ok (.iload 4, 2) := by decide +kernel
theorem dX8_cover_111 : decode cX8_cover 111 = .ok (.goto 8, 3) := by decide +kernel
theorem dX8_cover_114 : decode cX8_cover 114 = .ok (.iload 4, 2) := by decide +kernel
theorem dX8_cover_116 : decode cX8_cover 116 = .ok (.invokestatic 134, 3) := by decide +kernel
theorem dX8_cover_119 : decode cX8_cover 119 = .ok (.ireturn, 1) := by decide +kernel
theorem dX8_gap_0 : decode cX8_gap 0 = .ok (.aload_n 0, 1) := by decide +kernel
theorem dX8_gap_1 : decode cX8_gap 1 = .ok (.iload_n 1, 1) := by decide +kernel
theorem dX8_gap_2 : decode cX8_gap 2 = .ok (.invokevirtual 154, 3) := by decide +kernel
theorem dX8_gap_5 : decode cX8_gap 5 = .ok (.ifCond .eq 13, 3) := by decide +kernel
theorem dX8_gap_8 : decode cX8_gap 8 = .ok (.iload_n 2, 1) := by decide +kernel
theorem dX8_gap_9 : decode cX8_gap 9 = .ok (.i2l, 1) := by decide +kernel
theorem dX8_gap_10 : decode cX8_gap 10 = .ok (.lconst 0, 1) := by decide +kernel
theorem dX8_gap_11 : decode cX8_gap 11 = .ok (.lconst 1, 1) := by decide +kernel
theorem dX8_gap_12 : decode cX8_gap 12 = .ok (.invokestatic 39, 3) := by decide +kernel
theorem dX8_gap_15 : decode cX8_gap 15 = .ok (.ifCond .ne 6, 3) := by decide +kernel
theorem dX8_gap_18 : decode cX8_gap 18 = .ok (.ldc 49, 2) := by decide +kernel
theorem dX8_gap_20 : decode cX8_gap 20 = .ok (.ireturn, 1) := by decide +kernel
theorem dX8_gap_21 : decode cX8_gap 21 = .ok (.iconst 0, 1) := by decide +kernel
theorem dX8_gap_22 : decode cX8_gap 22 = .ok (.istore_n 3, 1) := by decide +kernel
theorem dX8_gap_23 : decode cX8_gap 23 = .ok (.ldc 140, 2) := by decide +kernel
theorem dX8_gap_25 : decode cX8_gap 25 = .ok (.istore 4, 2) := by decide +kernel
theorem dX8_gap_27 : decode cX8_gap 27 = .ok (.aload_n 0, 1) := by decide +kernel
theorem dX8_gap_28 : decode cX8_gap 28 = .ok (.iload_n 1, 1) := by decide +kernel
theorem dX8_gap_29 : decode cX8_gap 29 = .ok (.invokevirtual 147, 3) := by decide +kernel
theorem dX8_gap_32 : decode cX8_gap 32 = .ok (.istore 5, 2) := by decide +kernel
theorem dX8_gap_34 : decode cX8_gap 34 = .ok (.iload 5, 2) := by decide +kernel
theorem dX8_gap_36 : decode cX8_gap 36 = .ok (.ldc 140, 2) := by decide +kernel
theorem dX8_gap_38 : decode cX8_gap 38 = .ok (.if_icmp .ne 8, 3) := by decide +kernel
theorem dX8_gap_41 : decode cX8_gap 41 = .ok (.ldc 140, 2) := by decide +kernel
theorem dX8_gap_43 : decode cX8_gap 43 = .ok (.goto 10, 3) := by decide +kernel
theorem dX8_gap_46 : decode cX8_gap 46 = .ok (.aload_n 0, 1) := by decide +kernel
theorem dX8_gap_47 : decode cX8_gap 47 = .ok (.iload_n 1, 1) := by decide +kernel
theorem dX8_gap_48 : decode cX8_gap 48 = .ok (.iload 5, 2) := by decide +kernel
theorem dX8_gap_50 : decode cX8_gap 50 = .ok (.invokevirtual 141, 3) := by decide +kernel
theorem dX8_gap_53 : decode cX8_gap 53 = .ok (.istore 6, 2) := by decide +kernel
theorem dX8_gap_55 : decode cX8_gap 55 = .ok (.iload 6, 2) := by decide +kernel
theorem dX8_gap_57 : decode cX8_gap 57 = .ok (.ldc 140, 2) := by decide +kernel
theorem dX8_gap_59 : decode cX8_gap 59 = .ok (.if_icmp .eq 56, 3) := by decide +kernel
theorem dX8_gap_62 : decode cX8_gap 62 = .ok (.iload 6, 2) := by decide +kernel
theorem dX8_gap_64 : decode cX8_gap 64 = .ok (.iload 5, 2) := by decide +kernel
theorem dX8_gap_66 : decode cX8_gap 66 = .ok (.isub, 1) := by decide +kernel
theorem dX8_gap_67 : decode cX8_gap 67 = .ok (.iload_n 3, 1) := by decide +kernel
theorem dX8_gap_68 : decode cX8_gap 68 = .ok (.if_icmp .le 8, 3) := by decide +kernel
theorem dX8_gap_71 : decode cX8_gap 71 = .ok (.iload 5, 2) := by decide +kernel
theorem dX8_gap_73 : decode cX8_gap 73 = .ok (.goto 5, 3) := by decide +kernel
theorem dX8_gap_76 : decode cX8_gap 76 = .ok (.iload 4, 2) := by decide +kernel
theorem dX8_gap_78 : decode cX8_gap 78 = .ok (.istore 4, 2) := by decide +kernel
theorem dX8_gap_80 : decode cX8_gap 80 = .ok (.iload 6, 2) := by decide +kernel
theorem dX8_gap_82 : decode cX8_gap 82 = .ok (.iload 5, 2) := by decide +kernel
theorem dX8_gap_84 : decode cX8_gap 84 = .ok (.isub, 1) := by decide +kernel
theorem dX8_gap_85 : decode cX8_gap 85 = .ok (.iload_n 3, 1) := by decide +kernel
theorem dX8_gap_86 : decode cX8_gap 86 = .ok (.if_icmp .le 11, 3) := by decide +kernel
theorem dX8_gap_89 : decode cX8_gap 89 = .ok (.iload 6, 2) := by decide +kernel
theorem dX8_gap_91 : decode cX8_gap 91 = .ok (.iload 5, 2) := by decide +kernel
theorem dX8_gap_93 : decode cX8_gap 93 = .ok (.isub, 1) := by decide +kernel
theorem dX8_gap_94 : decode cX8_gap 94 = .ok (.goto 4, 3) := by decide +kernel
theorem dX8_gap_97 : decode cX8_gap 97 = .ok (.iload_n 3, 1) := by decide +kernel
theorem dX8_gap_98 : decode cX8_gap 98 = .ok (.istore_n 3, 1) := by decide +kernel
theorem dX8_gap_99 : decode cX8_gap 99 = .ok (.iload 6, 2) := by decide +kernel
theorem dX8_gap_101 : decode cX8_gap 101 = .ok (.istore 5, 2) := by decide +kernel
theorem dX8_gap_103 : decode cX8_gap 103 = .ok (.aload_n 0, 1) := by decide +kernel
theorem dX8_gap_104 : decode cX8_gap 104 = .ok (.iload_n 1, 1) := by decide +kernel
theorem dX8_gap_105 : decode cX8_gap 105 = .ok (.iload 5, 2) := by decide +kernel
theorem dX8_gap_107 : decode cX8_gap 107 = .ok (.invokevirtual 141, 3) := by decide +kernel
theorem dX8_gap_110 : decode cX8_gap 110 = .ok (.istore 6, 2) := by decide +kernel
theorem dX8_gap_112 : decode cX8_gap 112 = .ok (.goto (-57), 3) := by decide +kernel
theorem dX8_gap_115 : decode cX8_gap 115 = .ok (.iload_n 2, 1) := by decide +kernel
theorem dX8_gap_116 : decode cX8_gap 116 = .ok (.ifCond .eq 10, 3) := by decide +kernel
theorem dX8_gap_119 : decode cX8_gap 119 = .ok (.iload 4, 2) := by decide +kernel
theorem dX8_gap_121 : decode cX8_gap 121 = .ok (.ldc 140, 2) := by decide +kernel
theorem dX8_gap_123 : decode cX8_gap 123 = .ok (.if_icmp .ne 8, 3) := by decide +kernel
theorem dX8_gap_126 : decode cX8_gap 126 = .ok (.iload 4, 2) := by decide +kernel
theorem dX8_gap_128 : decode cX8_gap 128 = .ok (.goto 4, 3) := by decide +kernel
theorem dX8_gap_131 : decode cX8_gap 131 = .ok (.iload_n 3, 1) := by decide +kernel
theorem dX8_gap_132 : decode cX8_gap 132 = .ok (.ireturn, 1) := by decide +kernel
theorem dX8_likely_0 : decode cX8_likely 0 = .ok (.aload_n 0, 1) := by decide +kernel
theorem dX8_likely_1 : decode cX8_likely 1 = .ok (.iload_n 1, 1) := by decide +kernel
theorem dX8_likely_2 : decode cX8_likely 2 = .ok (.invokevirtual 154, 3) := by decide +kernel
theorem dX8_likely_5 : decode cX8_likely 5 = .ok (.ifCond .eq 45, 3) := by decide +kernel
theorem dX8_likely_8 : decode cX8_likely 8 = .ok (.aload_n 0, 1) := by decide +kernel
theorem dX8_likely_9 : decode cX8_likely 9 = .ok (.iload_n 2, 1) := by decide +kernel
theorem dX8_likely_10 : decode cX8_likely 10 = .ok (.i2l, 1) := by decide +kernel
theorem dX8_likely_11 : decode cX8_likely 11 = .ok (.invokevirtual 157, 3) := by decide +kernel
theorem dX8_likely_14 : decode cX8_likely 14 = .ok (.ifCond .eq 36, 3) := by decide +kernel
theorem dX8_likely_17 : decode cX8_likely 17 = .ok (.aload_n 0, 1) := by decide +kernel
theorem dX8_likely_18 : decode cX8_likely 18 = .ok (.iload_n 3, 1) := by decide +kernel
theorem dX8_likely_19 : decode cX8_likely 19 = .ok (.i2l, 1) := by decide +kernel
theorem dX8_likely_20 : decode cX8_likely 20 = .ok (.invokevirtual 157, 3) := by decide +kernel
theorem dX8_likely_23 : decode cX8_likely 23 = .ok (.ifCond .eq 27, 3) := by decide +kernel
theorem dX8_likely_26 : decode cX8_likely 26 = .ok (.iload 4, 2) := by decide +kernel
theorem dX8_likely_28 : decode cX8_likely 28 = .ok (.i2l, 1) := by decide +kernel
theorem dX8_likely_29 : decode cX8_likely 29 = .ok (.lconst 0, 1) := by decide +kernel
theorem dX8_likely_30 : decode cX8_likely 30 = .ok (.ldc2_w 286, 3) := by decide +kernel
theorem dX8_likely_33 : decode cX8_likely 33 = .ok (.invokestatic 39, 3) := by decide +kernel
theorem dX8_likely_36 : decode cX8_likely 36 = .ok (.ifCond .eq 14, 3) := by decide +kernel
theorem dX8_likely_39 : decode cX8_likely 39 = .ok (.iload 5, 2) := by decide +kernel
theorem dX8_likely_41 : decode cX8_likely 41 = .ok (.i2l, 1) := by decide +kernel
theorem dX8_likely_42 : decode cX8_likely 42 = .ok (.lconst 0, 1) := by decide +kernel
theorem dX8_likely_43 : decode cX8_likely 43 = .ok (.lconst 1, 1) := by decide +kernel
theorem dX8_likely_44 : decode cX8_likely 44 = .ok (.invokestatic 39, 3) := by decide +kernel
theorem dX8_likely_47 : decode cX8_likely 47 = .ok (.ifCond .ne 7, 3) := by decide +kernel
theorem dX8_likely_50 : decode cX8_likely 50 = .ok (.ldc2_w 288, 3) := by decide +kernel
theorem dX8_likely_53 : decode cX8_likely 53 = .ok (.lreturn, 1) := by decide +kernel
theorem dX8_likely_54 : decode cX8_likely 54 = .ok (.aload_n 0, 1) := by decide +kernel
theorem dX8_likely_55 : decode cX8_likely 55 = .ok (.iconst 0, 1) := by decide +kernel
theorem dX8_likely_56 : decode cX8_likely 56 = .ok (.iload_n 1, 1) := by decide +kernel
theorem dX8_likely_57 : decode cX8_likely 57 = .ok (.iload_n 3, 1) := by decide +kernel
theorem dX8_likely_58 : decode cX8_likely 58 = .ok (.invokevirtual 137, 3) := by decide +kernel
theorem dX8_likely_61 : decode cX8_likely 61 = .ok (.ifCond .eq 8, 3) := by decide +kernel
theorem dX8_likely_64 : decode cX8_likely 64 = .ok (.iload_n 3, 1) := by decide +kernel
theorem dX8_likely_65 : decode cX8_likely 65 = .ok (.iload_n 2, 1) := by decide +kernel
theorem dX8_likely_66 : decode cX8_likely 66 = .ok (.if_icmp .gt 7, 3) := by decide +kernel
theorem dX8_likely_69 : decode cX8_likely 69 = .ok (.ldc2_w 290, 3) := by decide +kernel
theorem dX8_likely_72 : decode cX8_likely 72 = .ok (.lreturn, 1) := by decide +kernel
theorem dX8_likely_73 : decode cX8_likely 73 = .ok (.iconst 0, 1) := by decide +kernel
theorem dX8_likely_74 : decode cX8_likely 74 = .ok (.istore 6, 2) := by decide +kernel
theorem dX8_likely_76 : decode cX8_likely 76 = .ok (.iload_n 2, 1) := by decide +kernel
theorem dX8_likely_77 : decode cX8_likely 77 = .ok (.iconst 1, 1) := by decide +kernel
theorem dX8_likely_78 : decode cX8_likely 78 = .ok (.iadd, 1) := by decide +kernel
theorem dX8_likely_79 : decode cX8_likely 79 = .ok (.istore 7, 2) := by decide +kernel
theorem dX8_likely_81 : decode cX8_likely 81 = .ok (.iload 7, 2) := by decide +kernel
theorem dX8_likely_83 : decode cX8_likely 83 = .ok (.iload_n 3, 1) := by decide +kernel
theorem dX8_likely_84 : decode cX8_likely 84 = .ok (.if_icmp .ge 30, 3) := by decide +kernel
theorem dX8_likely_87 : decode cX8_likely 87 = .ok (.iload 6, 2) := by decide +kernel
theorem dX8_likely_89 : decode cX8_likely 89 = .ok (.aload_n 0, 1) := by decide +kernel
theorem dX8_likely_90 : decode cX8_likely 90 = .ok (.iconst 0, 1) := by decide +kernel
theorem dX8_likely_91 : decode cX8_likely 91 = .ok (.iload_n 1, 1) := by decide +kernel
theorem dX8_likely_92 : decode cX8_likely 92 = .ok (.iload 7, 2) := by decide +kernel
theorem dX8_likely_94 : decode cX8_likely 94 = .ok (.invokevirtual 137, 3) := by decide +kernel
theorem dX8_likely_97 : decode cX8_likely 97 = .ok (.ifCond .eq 7, 3) := by decide +kernel
theorem dX8_likely_100 : decode cX8_likely 100 = .ok (.iconst 1, 1) := by decide +kernel
theorem dX8_likely_101 : decode cX8_likely 101 = .ok (.goto 4, 3) := by decide +kernel
theorem dX8_likely_104 : decode cX8_likely 104 = .ok (.iconst 0, 1) := by decide +kernel
theorem dX8_likely_105 : decode cX8_likely 105 = .ok (.iadd, 1) := by decide +kernel
theorem dX8_likely_106 : decode cX8_likely 106 = .ok (.istore 6, 2) := by decide +kernel
theorem dX8_likely_108 : decode cX8_likely 108 = .ok (.iinc 7 1, 3) := by decide +kernel
theorem dX8_likely_111 : decode cX8_likely 111 = .ok (.goto (-30), 3) := by decide +kernel
theorem dX8_likely_114 : decode cX8_likely 114 = .ok (.iload 6, 2) := by decide +kernel
theorem dX8_likely_116 : decode cX8_likely 116 = .ok (.bipush 16, 2) := by decide +kernel
theorem dX8_likely_118 : decode cX8_likely 118 = .ok (.if_icmp .le 7, 3) := by decide +kernel
theorem dX8_likely_121 : decode cX8_likely 121 = .ok (.ldc2_w 290, 3) := by decide +kernel
theorem dX8_likely_124 : decode cX8_likely 124 = .ok (.lreturn, 1) := by decide +kernel
theorem dX8_likely_125 : decode cX8_likely 125 = .ok (.ldc2_w 286, 3) := by decide +kernel
theorem dX8_likely_128 : decode cX8_likely 128 = .ok (.iload 4, 2) := by decide +kernel
theorem dX8_likely_130 : decode cX8_likely 130 = .ok (.i2l, 1) := by decide +kernel
theorem dX8_likely_131 : decode cX8_likely 131 = .ok (.lsub, 1) := by decide +kernel
theorem dX8_likely_132 : decode cX8_likely 132 = .ok (.lstore 7, 2) := by decide +kernel
theorem dX8_likely_134 : decode cX8_likely 134 = .ok (.ldc2_w 286, 3) := by decide +kernel
theorem dX8_likely_137 : decode cX8_likely 137 = .ok (.lstore 9, 2) := by decide +kernel
theorem dX8_likely_139 : decode cX8_likely 139 = .ok (.iconst 0, 1) := by decide +kernel
theorem dX8_likely_140 : decode cX8_likely 140 = .ok (.istore 11, 2) := by decide +kernel
theorem dX8_likely_142 : decode cX8_likely 142 = .ok (.iload 11, 2) := by decide +kernel
theorem dX8_likely_144 : decode cX8_likely 144 = .ok (.iload 6, 2) := by decide +kernel
theorem dX8_likely_146 : decode cX8_likely 146 = .ok (.if_icmp .ge 25, 3) := by decide +kernel
theorem dX8_likely_149 : decode cX8_likely 149 = .ok (.lload 7, 2) := by decide +kernel
theorem dX8_likely_151 : decode cX8_likely 151 = .ok (.iload 4, 2) := by decide +kernel
theorem dX8_likely_153 : decode cX8_likely 153 = .ok (.i2l, 1) := by decide +kernel
theorem dX8_likely_154 : decode cX8_likely 154 = .ok (.lmul, 1) := by decide +kernel
theorem dX8_likely_155 : decode cX8_likely 155 = .ok (.lstore 7, 2) := by decide +kernel
theorem dX8_likely_157 : decode cX8_likely 157 = .ok (.lload 9, 2) := by decide +kernel
theorem dX8_likely_159 : decode cX8_likely 159 = .ok (.ldc2_w 286, 3) := by decide +kernel
theorem dX8_likely_162 : decode cX8_likely 162 = .ok (.lmul, 1) := by decide +kernel
theorem dX8_likely_163 : decode cX8_likely 163 = .ok (.lstore 9, 2) := by decide +kernel
theorem dX8_likely_165 : decode cX8_likely 165 = .ok (.iinc 11 1, 3) := by decide +kernel
theorem dX8_likely_168 : decode cX8_likely 168 = .ok (.goto (-26), 3) := by decide +kernel
theorem dX8_likely_171 : decode cX8_likely 171 = .ok (.lload 7, 2) := by decide +kernel
theorem dX8_likely_173 : decode cX8_likely 173 = .ok (.lstore 11, 2) := by decide +kernel
theorem dX8_likely_175 : decode cX8_likely 175 = .ok (.lload 9, 2) := by decide +kernel
theorem dX8_likely_177 : decode cX8_likely 177 = .ok (.lstore 13, 2) := by decide +kernel
theorem dX8_likely_179 : decode cX8_likely 179 = .ok (.lload 13, 2) := by decide +kernel
theorem dX8_likely_181 : decode cX8_likely 181 = .ok (.lconst 0, 1) := by decide +kernel
theorem dX8_likely_182 : decode cX8_likely 182 = .ok (.lcmp, 1) := by decide +kernel
theorem dX8_likely_183 : decode cX8_likely 183 = .ok (.ifCond .eq 21, 3) := by decide +kernel
theorem dX8_likely_186 : decode cX8_likely 186 = .ok (.lload 11, 2) := by decide +kernel
theorem dX8_likely_188 : decode cX8_likely 188 = .ok (.lload 13, 2) := by decide +kernel
theorem dX8_likely_190 : decode cX8_likely 190 = .ok (.lrem, 1) := by decide +kernel
theorem dX8_likely_191 : decode cX8_likely 191 = .ok (.lstore 15, 2) := by decide +kernel
theorem dX8_likely_193 : decode cX8_likely 193 = .ok (.lload 13, 2) := by decide +kernel
theorem dX8_likely_195 : decode cX8_likely 195 = .ok (.lstore 11, 2) := by decide +kernel
theorem dX8_likely_197 : decode cX8_likely 197 = .ok (.lload 15, 2) := by decide +kernel
theorem dX8_likely_199 : decode cX8_likely 199 = .ok (.lstore 13, 2) := by decide +kernel
theorem dX8_likely_201 : decode cX8_likely 201 = .ok (.goto (-22), 3) := by decide +kernel
theorem dX8_likely_204 : decode cX8_likely 204 = .ok (.iload 5, 2) := by decide +kernel
theorem dX8_likely_206 : decode cX8_likely 206 = .ok (.ifCond .ne 11, 3) := by decide +kernel
theorem dX8_likely_209 : decode cX8_likely 209 = .ok (.lload 7, 2) := by decide +kernel
theorem dX8_likely_211 : decode cX8_likely 211 = .ok (.lload 11, 2) := by decide +kernel
theorem dX8_likely_213 : decode cX8_likely 213 = .ok (.ldiv, 1) := by decide +kernel
theorem dX8_likely_214 : decode cX8_likely 214 = .ok (.goto 8, 3) := by decide +kernel
theorem dX8_likely_217 : decode cX8_likely 217 = .ok (.lload 9, 2) := by decide +kernel
theorem dX8_likely_219 : decode cX8_likely 219 = .ok (.lload 11, 2) := by decide +kernel
theorem dX8_likely_221 : decode cX8_likely 221 = .ok (.ldiv, 1) := by decide +kernel
theorem dX8_likely_222 : decode cX8_likely 222 = .ok (.lreturn, 1) := by decide +kernel
theorem dX8_allKeys_0 : decode cX8_allKeys 0 = .ok (.iconst 0, 1) := by decide +kernel
theorem dX8_allKeys_1 : decode cX8_allKeys 1 = .ok (.istore_n 1, 1) := by decide +kernel
theorem dX8_allKeys_2 : decode cX8_allKeys 2 = .ok (.iconst 0, 1) := by decide +kernel
theorem dX8_allKeys_3 : decode cX8_allKeys 3 = .ok (.istore_n 2, 1) := by decide +kernel
theorem dX8_allKeys_4 : decode cX8_allKeys 4 = .ok (.iload_n 2, 1) := by decide +kernel
theorem dX8_allKeys_5 : decode cX8_allKeys 5 = .ok (.aload_n 0, 1) := by decide +kernel
theorem dX8_allKeys_6 : decode cX8_allKeys 6 = .ok (.getfield 7, 3) := by decide +kernel
theorem dX8_allKeys_9 : decode cX8_allKeys 9 = .ok (.iconst 0, 1) := by decide +kernel
theorem dX8_allKeys_10 : decode cX8_allKeys 10 = .ok (.iaload, 1) := by decide +kernel
theorem dX8_allKeys_11 : decode cX8_allKeys 11 = .ok (.if_icmp .ge 18, 3) := by decide +kernel
theorem dX8_allKeys_14 : decode cX8_allKeys 14 = .ok (.iload_n 1, 1) := by decide +kernel
theorem dX8_allKeys_15 : decode cX8_allKeys 15 = .ok (.aload_n 0, 1) := by decide +kernel
theorem dX8_allKeys_16 : decode cX8_allKeys 16 = .ok (.iconst 0, 1) := by decide +kernel
theorem dX8_allKeys_17 : decode cX8_allKeys 17 = .ok (.iload_n 2, 1) := by decide +kernel
theorem dX8_allKeys_18 : decode cX8_allKeys 18 = .ok (.invokevirtual 168, 3) := by decide +kernel
theorem dX8_allKeys_21 : decode cX8_allKeys 21 = .ok (.iadd, 1) := by decide +kernel
theorem dX8_allKeys_22 : decode cX8_allKeys 22 = .ok (.istore_n 1, 1) := by decide +kernel
theorem dX8_allKeys_23 : decode cX8_allKeys 23 = .ok (.iinc 2 1, 3) := by decide +kernel
theorem dX8_allKeys_26 : decode cX8_allKeys 26 = .ok (.goto (-22), 3) := by decide +kernel
theorem dX8_allKeys_29 : decode cX8_allKeys 29 = .ok (.iload_n 1, 1) := by decide +kernel
theorem dX8_allKeys_30 : decode cX8_allKeys 30 = .ok (.ireturn, 1) := by decide +kernel
theorem dX8_allNodes_0 : decode cX8_allNodes 0 = .ok (.iconst 0, 1) := by decide +kernel
theorem dX8_allNodes_1 : decode cX8_allNodes 1 = .ok (.istore_n 1, 1) := by decide +kernel
theorem dX8_allNodes_2 : decode cX8_allNodes 2 = .ok (.iconst 0, 1) := by decide +kernel
theorem dX8_allNodes_3 : decode cX8_allNodes 3 = .ok (.istore_n 2, 1) := by decide +kernel
theorem dX8_allNodes_4 : decode cX8_allNodes 4 = .ok (.iload_n 2, 1) := by decide +kernel
theorem dX8_allNodes_5 : decode cX8_allNodes 5 = .ok (.aload_n 0, 1) := by decide +kernel
theorem dX8_allNodes_6 : decode cX8_allNodes 6 = .ok (.getfield 7, 3) := by decide +kernel
theorem dX8_allNodes_9 : decode cX8_allNodes 9 = .ok (.iconst 0, 1) := by decide +kernel
theorem dX8_allNodes_10 : decode cX8_allNodes 10 = .ok (.iaload, 1) := by decide +kernel
theorem dX8_allNodes_11 : decode cX8_allNodes 11 = .ok (.if_icmp .ge 17, 3) := by decide +kernel
theorem dX8_allNodes_14 : decode cX8_allNodes 14 = .ok (.iload_n 1, 1) := by decide +kernel
theorem dX8_allNodes_15 : decode cX8_allNodes 15 = .ok (.aload_n 0, 1) := by decide +kernel
theorem dX8_allNodes_16 : decode cX8_allNodes 16 = .ok (.iload_n 2, 1) := by decide +kernel
theorem dX8_allNodes_17 : decode cX8_allNodes 17 = .ok (.invokevirtual 253, 3) := by decide +kernel
theorem dX8_allNodes_20 : decode cX8_allNodes 20 = .ok (.iadd, 1) := by decide +kernel
theorem dX8_allNodes_21 : decode cX8_allNodes 21 = .ok (.istore_n 1, 1) := by decide +kernel
theorem dX8_allNodes_22 : decode cX8_allNodes 22 = .ok (.iinc 2 1, 3) := by decide +kernel
theorem dX8_allNodes_25 : decode cX8_allNodes 25 = .ok (.goto (-21), 3) := by decide +kernel
theorem dX8_allNodes_28 : decode cX8_allNodes 28 = .ok (.iload_n 1, 1) := by decide +kernel
theorem dX8_allNodes_29 : decode cX8_allNodes 29 = .ok (.ireturn, 1) := by decide +kernel
theorem dX8_drawn_0 : decode cX8_drawn 0 = .ok (.aload_n 0, 1) := by decide +kernel
theorem dX8_drawn_1 : decode cX8_drawn 1 = .ok (.invokevirtual 124, 3) := by decide +kernel
theorem dX8_drawn_4 : decode cX8_drawn 4 = .ok (.ifCond .ne 6, 3) := by decide +kernel
theorem dX8_drawn_7 : decode cX8_drawn 7 = .ok (.ldc 153, 2) := by decide +kernel
theorem dX8_drawn_9 : decode cX8_drawn 9 = .ok (.ireturn, 1) := by decide +kernel
theorem dX8_drawn_10 : decode cX8_drawn 10 = .ok (.iload_n 1, 1) := by decide +kernel
theorem dX8_drawn_11 : decode cX8_drawn 11 = .ok (.i2l, 1) := by decide +kernel
theorem dX8_drawn_12 : decode cX8_drawn 12 = .ok (.lconst 0, 1) := by decide +kernel
theorem dX8_drawn_13 : decode cX8_drawn 13 = .ok (.ldc2_w 292, 3) := by decide +kernel
theorem dX8_drawn_16 : decode cX8_drawn 16 = .ok (.invokestatic 39, 3) := by decide +kernel
theorem dX8_drawn_19 : decode cX8_drawn 19 = .ok (.ifCond .eq 25, 3) := by decide +kernel
theorem dX8_drawn_22 : decode cX8_drawn 22 = .ok (.iload_n 2, 1) := by decide +kernel
theorem dX8_drawn_23 : decode cX8_drawn 23 = .ok (.i2l, 1) := by decide +kernel
theorem dX8_drawn_24 : decode cX8_drawn 24 = .ok (.lconst 1, 1) := by decide +kernel
theorem dX8_drawn_25 : decode cX8_drawn 25 = .ok (.ldc2_w 294, 3) := by decide +kernel
theorem dX8_drawn_28 : decode cX8_drawn 28 = .ok (.invokestatic 39, 3) := by decide +kernel
theorem dX8_drawn_31 : decode cX8_drawn 31 = .ok (.ifCond .eq 13, 3) := by decide +kernel
theorem dX8_drawn_34 : decode cX8_drawn 34 = .ok (.iload_n 3, 1) := by decide +kernel
theorem dX8_drawn_35 : decode cX8_drawn 35 = .ok (.i2l, 1) := by decide +kernel
theorem dX8_drawn_36 : decode cX8_drawn 36 = .ok (.lconst 0, 1) := by decide +kernel
theorem dX8_drawn_37 : decode cX8_drawn 37 = .ok (.lconst 1, 1) := by decide +kernel
theorem dX8_drawn_38 : decode cX8_drawn 38 = .ok (.invokestatic 39, 3) := by decide +kernel
theorem dX8_drawn_41 : decode cX8_drawn 41 = .ok (.ifCond .ne 6, 3) := by decide +kernel
theorem dX8_drawn_44 : decode cX8_drawn 44 = .ok (.ldc 49, 2) := by decide +kernel
theorem dX8_drawn_46 : decode cX8_drawn 46 = .ok (.ireturn, 1) := by decide +kernel
theorem dX8_drawn_47 : decode cX8_drawn 47 = .ok (.aload_n 0, 1) := by decide +kernel
theorem dX8_drawn_48 : decode cX8_drawn 48 = .ok (.iconst 0, 1) := by decide +kernel
theorem dX8_drawn_49 : decode cX8_drawn 49 = .ok (.sipush 3618, 3) := by decide +kernel
theorem dX8_drawn_52 : decode cX8_drawn 52 = .ok (.invokevirtual 117, 3) := by decide +kernel
theorem dX8_drawn_55 : decode cX8_drawn 55 = .ok (.iload_n 2, 1) := by decide +kernel
theorem dX8_drawn_56 : decode cX8_drawn 56 = .ok (.i2l, 1) := by decide +kernel
theorem dX8_drawn_57 : decode cX8_drawn 57 = .ok (.lstore 4, 2) := by decide +kernel
theorem dX8_drawn_59 : decode cX8_drawn 59 = .ok (.iconst 0, 1) := by decide +kernel
theorem dX8_drawn_60 : decode cX8_drawn 60 = .ok (.istore 6, 2) := by decide +kernel
theorem dX8_drawn_62 : decode cX8_drawn 62 = .ok (.iload 6, 2) := by decide +kernel
theorem dX8_drawn_64 : decode cX8_drawn 64 = .ok (.iload_n 1, 1) := by decide +kernel
theorem dX8_drawn_65 : decode cX8_drawn 65 = .ok (.if_icmp .ge 50, 3) := by decide +kernel
theorem dX8_drawn_68 : decode cX8_drawn 68 = .ok (.lload 4, 2) := by decide +kernel
theorem dX8_drawn_70 : decode cX8_drawn 70 = .ok (.ldc2_w 296, 3) := by decide +kernel
theorem dX8_drawn_73 : decode cX8_drawn 73 = .ok (.lmul, 1) := by decide +kernel
theorem dX8_drawn_74 : decode cX8_drawn 74 = .ok (.ldc2_w 298, 3) := by decide +kernel
theorem dX8_drawn_77 : decode cX8_drawn 77 = .ok (.lrem, 1) := by decide +kernel
theorem dX8_drawn_78 : decode cX8_drawn 78 = .ok (.lstore 4, 2) := by decide +kernel
theorem dX8_drawn_80 : decode cX8_drawn 80 = .ok (.aload_n 0, 1) := by decide +kernel
theorem dX8_drawn_81 : decode cX8_drawn 81 = .ok (.iconst 0, 1) := by decide +kernel
theorem dX8_drawn_82 : decode cX8_drawn 82 = .ok (.lload 4, 2) := by decide +kernel
theorem dX8_drawn_84 : decode cX8_drawn 84 = .ok (.aload_n 0, 1) := by decide +kernel
theorem dX8_drawn_85 : decode cX8_drawn 85 = .ok (.getfield 7, 3) := by decide +kernel
theorem dX8_drawn_88 : decode cX8_drawn 88 = .ok (.iconst 0, 1) := by decide +kernel
theorem dX8_drawn_89 : decode cX8_drawn 89 = .ok (.iaload, 1) := by decide +kernel
theorem dX8_drawn_90 : decode cX8_drawn 90 = .ok (.i2l, 1) := by decide +kernel
theorem dX8_drawn_91 : decode cX8_drawn 91 = .ok (.lrem, 1) := by decide +kernel
theorem dX8_drawn_92 : decode cX8_drawn 92 = .ok (.l2i, 1) := by decide +kernel
theorem dX8_drawn_93 : decode cX8_drawn 93 = .ok (.lload 4, 2) := by decide +kernel
theorem dX8_drawn_95 : decode cX8_drawn 95 = .ok (.ldc2_w 300, 3) := by decide +kernel
theorem dX8_drawn_98 : decode cX8_drawn 98 = .ok (.ldiv, 1) := by decide +kernel
theorem dX8_drawn_99 : decode cX8_drawn 99 = .ok (.aload_n 0, 1) := by decide +kernel
theorem dX8_drawn_100 : decode cX8_drawn 100 = .ok (.invokevirtual 127, 3) := by decide +kernel
theorem dX8_drawn_103 : decode cX8_drawn 103 = .ok (.i2l, 1) := by decide +kernel
theorem dX8_drawn_104 : decode cX8_drawn 104 = .ok (.lrem, 1) := by decide +kernel
theorem dX8_drawn_105 : decode cX8_drawn 105 = .ok (.l2i, 1) := by decide +kernel
theorem dX8_drawn_106 : decode cX8_drawn 106 = .ok (.invokevirtual 164, 3) := by decide +kernel
theorem dX8_drawn_109 : decode cX8_drawn 109 = .ok (.iinc 6 1, 3) := by decide +kernel
theorem dX8_drawn_112 : decode cX8_drawn 112 = .ok (.goto (-50), 3) := by decide +kernel
theorem dX8_drawn_115 : decode cX8_drawn 115 = .ok (.iload_n 3, 1) := by decide +kernel
theorem dX8_drawn_116 : decode cX8_drawn 116 = .ok (.ifCond .ne 10, 3) := by decide +kernel
theorem dX8_drawn_119 : decode cX8_drawn 119 = .ok (.aload_n 0, 1) := by decide +kernel
theorem dX8_drawn_120 : decode cX8_drawn 120 = .ok (.invokevirtual 302, 3) := by decide +kernel
theorem dX8_drawn_123 : decode cX8_drawn 123 = .ok (.goto 7, 3) := by decide +kernel
theorem dX8_drawn_126 : decode cX8_drawn 126 = .ok (.aload_n 0, 1) := by decide +kernel
theorem dX8_drawn_127 : decode cX8_drawn 127 = .ok (.invokevirtual 305, 3) := by decide +kernel
theorem dX8_drawn_130 : decode cX8_drawn 130 = .ok (.istore 6, 2) := by decide +kernel
theorem dX8_drawn_132 : decode cX8_drawn 132 = .ok (.aload_n 0, 1) := by decide +kernel
theorem dX8_drawn_133 : decode cX8_drawn 133 = .ok (.sipush 3618, 3) := by decide +kernel
theorem dX8_drawn_136 : decode cX8_drawn 136 = .ok (.iconst 0, 1) := by decide +kernel
theorem dX8_drawn_137 : decode cX8_drawn 137 = .ok (.invokevirtual 117, 3) := by decide +kernel
theorem dX8_drawn_140 : decode cX8_drawn 140 = .ok (.iload 6, 2) := by decide +kernel
theorem dX8_drawn_142 : decode cX8_drawn 142 = .ok (.ireturn, 1) := by decide +kernel
theorem dX8_image_0 : decode cX8_image 0 = .ok (.iload_n 1, 1) := by decide +kernel
theorem dX8_image_1 : decode cX8_image 1 = .ok (.i2l, 1) := by decide +kernel
theorem dX8_image_2 : decode cX8_image 2 = .ok (.lconst 0, 1) := by decide +kernel
theorem dX8_image_3 : decode cX8_image 3 = .ok (.lconst 1, 1) := by decide +kernel
theorem dX8_image_4 : decode cX8_image 4 = .ok (.invokestatic 39, 3) := by decide +kernel
theorem dX8_image_7 : decode cX8_image 7 = .ok (.ifCond .ne 6, 3) := by decide +kernel
theorem dX8_image_10 : decode cX8_image 10 = .ok (.ldc 49, 2) := by decide +kernel
theorem dX8_image_12 : decode cX8_image 12 = .ok (.ireturn, 1) := by decide +kernel
theorem dX8_image_13 : decode cX8_image 13 = .ok (.aload_n 0, 1) := by decide +kernel
theorem dX8_image_14 : decode cX8_image 14 = .ok (.invokevirtual 124, 3) := by decide +kernel
theorem dX8_image_17 : decode cX8_image 17 = .ok (.ifCond .ne 6, 3) := by decide +kernel
theorem dX8_image_20 : decode cX8_image 20 = .ok (.ldc 153, 2) := by decide +kernel
theorem dX8_image_22 : decode cX8_image 22 = .ok (.ireturn, 1) := by decide +kernel
theorem dX8_image_23 : decode cX8_image 23 = .ok (.aload_n 0, 1) := by decide +kernel
theorem dX8_image_24 : decode cX8_image 24 = .ok (.iconst 0, 1) := by decide +kernel
theorem dX8_image_25 : decode cX8_image 25 = .ok (.sipush 3350, 3) := by decide +kernel
theorem dX8_image_28 : decode cX8_image 28 = .ok (.sipush 134, 3) := by decide +kernel
theorem dX8_image_31 : decode cX8_image 31 = .ok (.iload_n 1, 1) := by decide +kernel
theorem dX8_image_32 : decode cX8_image 32 = .ok (.imul, 1) := by decide +kernel
theorem dX8_image_33 : decode cX8_image 33 = .ok (.iadd, 1) := by decide +kernel
theorem dX8_image_34 : decode cX8_image 34 = .ok (.invokevirtual 117, 3) := by decide +kernel
theorem dX8_image_37 : decode cX8_image 37 = .ok (.aload_n 0, 1) := by decide +kernel
theorem dX8_image_38 : decode cX8_image 38 = .ok (.getfield 13, 3) := by decide +kernel
theorem dX8_image_41 : decode cX8_image 41 = .ok (.iload_n 1, 1) := by decide +kernel
theorem dX8_image_42 : decode cX8_image 42 = .ok (.iconst 1, 1) := by decide +kernel
theorem dX8_image_43 : decode cX8_image 43 = .ok (.bastore, 1) := by decide +kernel
theorem dX8_image_44 : decode cX8_image 44 = .ok (.iconst 1, 1) := by decide +kernel
theorem dX8_image_45 : decode cX8_image 45 = .ok (.ireturn, 1) := by decide +kernel
theorem dX8_restore_0 : decode cX8_restore 0 = .ok (.iload_n 1, 1) := by decide +kernel
theorem dX8_restore_1 : decode cX8_restore 1 = .ok (.i2l, 1) := by decide +kernel
theorem dX8_restore_2 : decode cX8_restore 2 = .ok (.lconst 0, 1) := by decide +kernel
theorem dX8_restore_3 : decode cX8_restore 3 = .ok (.lconst 1, 1) := by decide +kernel
theorem dX8_restore_4 : decode cX8_restore 4 = .ok (.invokestatic 39, 3) := by decide +kernel
theorem dX8_restore_7 : decode cX8_restore 7 = .ok (.ifCond .ne 6, 3) := by decide +kernel
theorem dX8_restore_10 : decode cX8_restore 10 = .ok (.ldc 49, 2) := by decide +kernel
theorem dX8_restore_12 : decode cX8_restore 12 = .ok (.ireturn, 1) := by decide +kernel
theorem dX8_restore_13 : decode cX8_restore 13 = .ok (.aload_n 0, 1) := by decide +kernel
theorem dX8_restore_14 : decode cX8_restore 14 = .ok (.getfield 13, 3) := by decide +kernel
theorem dX8_restore_17 : decode cX8_restore 17 = .ok (.iload_n 1, 1) := by decide +kernel
theorem dX8_restore_18 : decode cX8_restore 18 = .ok (.baload, 1) := by decide +kernel
theorem dX8_restore_19 : decode cX8_restore 19 = .ok (.ifCond .ne 6, 3) := by decide +kernel
theorem dX8_restore_22 : decode cX8_restore 22 = .ok (.ldc 153, 2) := by decide +kernel
theorem dX8_restore_24 : decode cX8_restore 24 = .ok (.ireturn, 1) := by decide +kernel
theorem dX8_restore_25 : decode cX8_restore 25 = .ok (.aload_n 0, 1) := by decide +kernel
theorem dX8_restore_26 : decode cX8_restore 26 = .ok (.sipush 3350, 3) := by decide +kernel
theorem dX8_restore_29 : decode cX8_restore 29 = .ok (.sipush 134, 3) := by decide +kernel
theorem dX8_restore_32 : decode cX8_restore 32 = .ok (.iload_n 1, 1) := by decide +kernel
theorem dX8_restore_33 : decode cX8_restore 33 = .ok (.imul, 1) := by decide +kernel
theorem dX8_restore_34 : decode cX8_restore 34 = .ok (.iadd, 1) := by decide +kernel
theorem dX8_restore_35 : decode cX8_restore 35 = .ok (.iconst 0, 1) := by decide +kernel
theorem dX8_restore_36 : decode cX8_restore 36 = .ok (.invokevirtual 117, 3) := by decide +kernel
theorem dX8_restore_39 : decode cX8_restore 39 = .ok (.aload_n 0, 1) := by decide +kernel
theorem dX8_restore_40 : decode cX8_restore 40 = .ok (.iconst 0, 1) := by decide +kernel
theorem dX8_restore_41 : decode cX8_restore 41 = .ok (.putfield 121, 3) := by decide +kernel
theorem dX8_restore_44 : decode cX8_restore 44 = .ok (.iconst 1, 1) := by decide +kernel
theorem dX8_restore_45 : decode cX8_restore 45 = .ok (.ireturn, 1) := by decide +kernel
theorem dX8_kind_0 : decode cX8_kind 0 = .ok (.aload_n 0, 1) := by decide +kernel
theorem dX8_kind_1 : decode cX8_kind 1 = .ok (.iload_n 1, 1) := by decide +kernel
theorem dX8_kind_2 : decode cX8_kind 2 = .ok (.invokevirtual 154, 3) := by decide +kernel
theorem dX8_kind_5 : decode cX8_kind 5 = .ok (.ifCond .eq 14, 3) := by decide +kernel
theorem dX8_kind_8 : decode cX8_kind 8 = .ok (.aload_n 0, 1) := by decide +kernel
theorem dX8_kind_9 : decode cX8_kind 9 = .ok (.getfield 7, 3) := by decide +kernel
theorem dX8_kind_12 : decode cX8_kind 12 = .ok (.iconst 2, 1) := by decide +kernel
theorem dX8_kind_13 : decode cX8_kind 13 = .ok (.iload_n 1, 1) := by decide +kernel
theorem dX8_kind_14 : decode cX8_kind 14 = .ok (.iadd, 1) := by decide +kernel
theorem dX8_kind_15 : decode cX8_kind 15 = .ok (.iaload, 1) := by decide +kernel
theorem dX8_kind_16 : decode cX8_kind 16 = .ok (.goto 5, 3) := by decide +kernel
theorem dX8_kind_19 : decode cX8_kind 19 = .ok (.ldc 49, 2) := by decide +kernel
theorem dX8_kind_21 : decode cX8_kind 21 = .ok (.ireturn, 1) := by decide +kernel
theorem dX8_isOf_0 : decode cX8_isOf 0 = .ok (.aload_n 0, 1) := by decide +kernel
theorem dX8_isOf_1 : decode cX8_isOf 1 = .ok (.getfield 7, 3) := by decide +kernel
theorem dX8_isOf_4 : decode cX8_isOf 4 = .ok (.iconst 2, 1) := by decide +kernel
theorem dX8_isOf_5 : decode cX8_isOf 5 = .ok (.iload_n 1, 1) := by decide +kernel
theorem dX8_isOf_6 : decode cX8_isOf 6 = .ok (.iadd, 1) := by decide +kernel
theorem dX8_isOf_7 : decode cX8_isOf 7 = .ok (.iaload, 1) := by decide +kernel
theorem dX8_isOf_8 : decode cX8_isOf 8 = .ok (.istore_n 3, 1) := by decide +kernel
theorem dX8_isOf_9 : decode cX8_isOf 9 = .ok (.iload_n 2, 1) := by decide +kernel
theorem dX8_isOf_10 : decode cX8_isOf 10 = .ok (.ifCond .eq 28, 3) := by decide +kernel
theorem dX8_isOf_13 : decode cX8_isOf 13 = .ok (.iload_n 2, 1) := by decide +kernel
theorem dX8_isOf_14 : decode cX8_isOf 14 = .ok (.iload_n 3, 1) := by decide +kernel
theorem dX8_isOf_15 : decode cX8_isOf 15 = .ok (.if_icmp .eq 23, 3) := by decide +kernel
theorem dX8_isOf_18 : decode cX8_isOf 18 = .ok (.iload_n 2, 1) := by decide +kernel
theorem dX8_isOf_19 : decode cX8_isOf 19 = .ok (.iconst 1, 1) := by decide +kernel
theorem dX8_isOf_20 : decode cX8_isOf 20 = .ok (.if_icmp .ne 8, 3) := by decide +kernel
theorem dX8_isOf_23 : decode cX8_isOf 23 = .ok (.iload_n 3, 1) := by decide +kernel
theorem dX8_isOf_24 : decode cX8_isOf 24 = .ok (.iconst 4, 1) := by decide +kernel
theorem dX8_isOf_25 : decode cX8_isOf 25 = .ok (.if_icmp .lt 13, 3) := by decide +kernel
theorem dX8_isOf_28 : decode cX8_isOf 28 = .ok (.iload_n 2, 1) := by decide +kernel
theorem dX8_isOf_29 : decode cX8_isOf 29 = .ok (.iconst 4, 1) := by decide +kernel
theorem dX8_isOf_30 : decode cX8_isOf 30 = .ok (.if_icmp .ne 12, 3) := by decide +kernel
theorem dX8_isOf_33 : decode cX8_isOf 33 = .ok (.iload_n 3, 1) := by decide +kernel
theorem dX8_isOf_34 : decode cX8_isOf 34 = .ok (.iconst 5, 1) := by decide +kernel
theorem dX8_isOf_35 : decode cX8_isOf 35 = .ok (.if_icmp .ne 7, 3) := by decide +kernel
theorem dX8_isOf_38 : decode cX8_isOf 38 = .ok (.iconst 1, 1) := by decide +kernel
theorem dX8_isOf_39 : decode cX8_isOf 39 = .ok (.goto 4, 3) := by decide +kernel
theorem dX8_isOf_42 : decode cX8_isOf 42 = .ok (.iconst 0, 1) := by decide +kernel
theorem dX8_isOf_43 : decode cX8_isOf 43 = .ok (.ireturn, 1) := by decide +kernel
theorem dX8_as_0 : decode cX8_as 0 = .ok (.aload_n 0, 1) := by decide +kernel
theorem dX8_as_1 : decode cX8_as 1 = .ok (.iload_n 1, 1) := by decide +kernel
theorem dX8_as_2 : decode cX8_as 2 = .ok (.invokevirtual 154, 3) := by decide +kernel
theorem dX8_as_5 : decode cX8_as 5 = .ok (.ifCond .eq 15, 3) := by decide +kernel
theorem dX8_as_8 : decode cX8_as 8 = .ok (.iload_n 2, 1) := by decide +kernel
theorem dX8_as_9 : decode cX8_as 9 = .ok (.i2l, 1) := by decide +kernel
theorem dX8_as_10 : decode cX8_as 10 = .ok (.lconst 0, 1) := by decide +kernel
theorem dX8_as_11 : decode cX8_as 11 = .ok (.ldc2_w 308, 3) := by decide +kernel
theorem dX8_as_14 : decode cX8_as 14 = .ok (.invokestatic 39, 3) := by decide +kernel
theorem dX8_as_17 : decode cX8_as 17 = .ok (.ifCond .ne 6, 3) := by decide +kernel
theorem dX8_as_20 : decode cX8_as 20 = .ok (.ldc 49, 2) := by decide +kernel
theorem dX8_as_22 : decode cX8_as 22 = .ok (.ireturn, 1) := by decide +kernel
theorem dX8_as_23 : decode cX8_as 23 = .ok (.aload_n 0, 1) := by decide +kernel
theorem dX8_as_24 : decode cX8_as 24 = .ok (.iload_n 1, 1) := by decide +kernel
theorem dX8_as_25 : decode cX8_as 25 = .ok (.iload_n 2, 1) := by decide +kernel
theorem dX8_as_26 : decode cX8_as 26 = .ok (.invokevirtual 310, 3) := by decide +kernel
theorem dX8_as_29 : decode cX8_as 29 = .ok (.ifCond .eq 11, 3) := by decide +kernel
theorem dX8_as_32 : decode cX8_as 32 = .ok (.aload_n 0, 1) := by decide +kernel
theorem dX8_as_33 : decode cX8_as 33 = .ok (.iload_n 1, 1) := by decide +kernel
theorem dX8_as_34 : decode cX8_as 34 = .ok (.invokevirtual 54, 3) := by decide +kernel
theorem dX8_as_37 : decode cX8_as 37 = .ok (.goto 8, 3) := by decide +kernel
theorem dX8_as_40 : decode cX8_as 40 = .ok (.aload_n 0, 1) := by decide +kernel
theorem dX8_as_41 : decode cX8_as 41 = .ok (.iconst 3, 1) := by decide +kernel
theorem dX8_as_42 : decode cX8_as 42 = .ok (.invokevirtual 50, 3) := by decide +kernel
theorem dX8_as_45 : decode cX8_as 45 = .ok (.ireturn, 1) := by decide +kernel
theorem dX8_begin_0 : decode cX8_begin 0 = .ok (.aload_n 0, 1) := by decide +kernel
theorem dX8_begin_1 : decode cX8_begin 1 = .ok (.getfield 313, 3) := by decide +kernel
theorem dX8_begin_4 : decode cX8_begin 4 = .ok (.bipush 16, 2) := by decide +kernel
theorem dX8_begin_6 : decode cX8_begin 6 = .ok (.if_icmp .ge 23, 3) := by decide +kernel
theorem dX8_begin_9 : decode cX8_begin 9 = .ok (.aload_n 0, 1) := by decide +kernel
theorem dX8_begin_10 : decode cX8_begin 10 = .ok (.getfield 29, 3) := by decide +kernel
theorem dX8_begin_13 : decode cX8_begin 13 = .ok (.aload_n 0, 1) := by decide +kernel
theorem dX8_begin_14 : decode cX8_begin 14 = .ok (.getfield 313, 3) := by decide +kernel
theorem dX8_begin_17 : decode cX8_begin 17 = .ok (.iload_n 1, 1) := by decide +kernel
theorem dX8_begin_18 : decode cX8_begin 18 = .ok (.iastore, 1) := by decide +kernel
theorem dX8_begin_19 : decode cX8_begin 19 = .ok (.aload_n 0, 1) := by decide +kernel
theorem dX8_begin_20 : decode cX8_begin 20 = .ok (.dup, 1) := by decide +kernel
theorem dX8_begin_21 : decode cX8_begin 21 = .ok (.getfield 313, 3) := by decide +kernel
theorem dX8_begin_24 : decode cX8_begin 24 = .ok (.iconst 1, 1) := by decide +kernel
theorem dX8_begin_25 : decode cX8_begin 25 = .ok (.iadd, 1) := by decide +kernel
theorem dX8_begin_26 : decode cX8_begin 26 = .ok (.putfield 313, 3) := by decide +kernel
theorem dX8_begin_29 : decode cX8_begin 29 = .ok (.return_, 1) := by decide +kernel
theorem dX8_lentSize_0 : decode cX8_lentSize 0 = .ok (.aload_n 0, 1) := by decide +kernel
theorem dX8_lentSize_1 : decode cX8_lentSize 1 = .ok (.bipush 10, 2) := by decide +kernel
theorem dX8_lentSize_3 : decode cX8_lentSize 3 = .ok (.invokevirtual 316, 3) := by decide +kernel
theorem dX8_lentSize_6 : decode cX8_lentSize 6 = .ok (.aload_n 0, 1) := by decide +kernel
theorem dX8_lentSize_7 : decode cX8_lentSize 7 = .ok (.iconst 0, 1) := by decide +kernel
theorem dX8_lentSize_8 : decode cX8_lentSize 8 = .ok (.iload_n 1, 1) := by decide +kernel
theorem dX8_lentSize_9 : decode cX8_lentSize 9 = .ok (.invokevirtual 168, 3) := by decide +kernel
theorem dX8_lentSize_12 : decode cX8_lentSize 12 = .ok (.ireturn, 1) := by decide +kernel
theorem dX8_aboveSize_0 : decode cX8_aboveSize 0 = .ok (.aload_n 0, 1) := by decide +kernel
theorem dX8_aboveSize_1 : decode cX8_aboveSize 1 = .ok (.bipush 11, 2) := by decide +kernel
theorem dX8_aboveSize_3 : decode cX8_aboveSize 3 = .ok (.invokevirtual 316, 3) := by decide +kernel
theorem dX8_aboveSize_6 : decode cX8_aboveSize 6 = .ok (.aload_n 0, 1) := by decide +kernel
theorem dX8_aboveSize_7 : decode cX8_aboveSize 7 = .ok (.iload_n 1, 1) := by decide +kernel
theorem dX8_aboveSize_8 : decode cX8_aboveSize 8 = .ok (.invokevirtual 320, 3) := by decide +kernel
theorem dX8_aboveSize_11 : decode cX8_aboveSize 11 = .ok (.istore_n 2, 1) := by decide +kernel
theorem dX8_aboveSize_12 : decode cX8_aboveSize 12 = .ok (.iload_n 2, 1) := by decide +kernel
theorem dX8_aboveSize_13 : decode cX8_aboveSize 13 = .ok (.aload_n 0, 1) := by decide +kernel
theorem dX8_aboveSize_14 : decode cX8_aboveSize 14 = .ok (.iload_n 1, 1) := by decide +kernel
theorem dX8_aboveSize_15 : decode cX8_aboveSize 15 = .ok (.invokevirtual 323, 3) := by decide +kernel
theorem dX8_aboveSize_18 : decode cX8_aboveSize 18 = .ok (.iadd, 1) := by decide +kernel
theorem dX8_aboveSize_19 : decode cX8_aboveSize 19 = .ok (.ireturn, 1) := by decide +kernel
theorem dX8_belowSize_0 : decode cX8_belowSize 0 = .ok (.aload_n 0, 1) := by decide +kernel
theorem dX8_belowSize_1 : decode cX8_belowSize 1 = .ok (.bipush 13, 2) := by decide +kernel
theorem dX8_belowSize_3 : decode cX8_belowSize 3 = .ok (.invokevirtual 316, 3) := by decide +kernel
theorem dX8_belowSize_6 : decode cX8_belowSize 6 = .ok (.aload_n 0, 1) := by decide +kernel
theorem dX8_belowSize_7 : decode cX8_belowSize 7 = .ok (.iload_n 1, 1) := by decide +kernel
theorem dX8_belowSize_8 : decode cX8_belowSize 8 = .ok (.invokevirtual 320, 3) := by decide +kernel
theorem dX8_belowSize_11 : decode cX8_belowSize 11 = .ok (.bipush 100, 2) := by decide +kernel
theorem dX8_belowSize_13 : decode cX8_belowSize 13 = .ok (.isub, 1) := by decide +kernel
theorem dX8_belowSize_14 : decode cX8_belowSize 14 = .ok (.ireturn, 1) := by decide +kernel
theorem dX8_sizeOf_0 : decode cX8_sizeOf 0 = .ok (.aload_n 0, 1) := by decide +kernel
theorem dX8_sizeOf_1 : decode cX8_sizeOf 1 = .ok (.getfield 7, 3) := by decide +kernel
theorem dX8_sizeOf_4 : decode cX8_sizeOf 4 = .ok (.iconst 2, 1) := by decide +kernel
theorem dX8_sizeOf_5 : decode cX8_sizeOf 5 = .ok (.iload_n 1, 1) := by decide +kernel
theorem dX8_sizeOf_6 : decode cX8_sizeOf 6 = .ok (.iadd, 1) := by decide +kernel
theorem dX8_sizeOf_7 : decode cX8_sizeOf 7 = .ok (.iaload, 1) := by decide +kernel
theorem dX8_sizeOf_8 : decode cX8_sizeOf 8 = .ok (.tableswitch 65 2 5 #[32, 65, 45, 51], 32) := by decide +kernel
theorem dX8_sizeOf_40 : decode cX8_sizeOf 40 = .ok (.aload_n 0, 1) := by decide +kernel
theorem dX8_sizeOf_41 : decode cX8_sizeOf 41 = .ok (.bipush 12, 2) := by decide +kernel
theorem dX8_sizeOf_43 : decode cX8_sizeOf 43 = .ok (.invokevirtual 316, 3) := by decide +kernel
theorem dX8_sizeOf_46 : decode cX8_sizeOf 46 = .ok (.aload_n 0, 1) := by decide +kernel
theorem dX8_sizeOf_47 : decode cX8_sizeOf 47 = .ok (.iload_n 1, 1) := by decide +kernel
theorem dX8_sizeOf_48 : decode cX8_sizeOf 48 = .ok (.invokevirtual 326, 3) := by decide +kernel
theorem dX8_sizeOf_51 : decode cX8_sizeOf 51 = .ok (.ineg, 1) := by decide +kernel
theorem dX8_sizeOf_52 : decode cX8_sizeOf 52 = .ok (.ireturn, 1) := by decide +kernel
theorem dX8_sizeOf_53 : decode cX8_sizeOf 53 = .ok (.aload_n 0, 1) := by decide +kernel
theorem dX8_sizeOf_54 : decode cX8_sizeOf 54 = .ok (.iload_n 1, 1) := by decide +kernel
theorem dX8_sizeOf_55 : decode cX8_sizeOf 55 = .ok (.invokevirtual 329, 3) := by decide +kernel
theorem dX8_sizeOf_58 : decode cX8_sizeOf 58 = .ok (.ireturn, 1) := by decide +kernel
theorem dX8_sizeOf_59 : decode cX8_sizeOf 59 = .ok (.aload_n 0, 1) := by decide +kernel
theorem dX8_sizeOf_60 : decode cX8_sizeOf 60 = .ok (.bipush 14, 2) := by decide +kernel
theorem dX8_sizeOf_62 : decode cX8_sizeOf 62 = .ok (.invokevirtual 316, 3) := by decide +kernel
theorem dX8_sizeOf_65 : decode cX8_sizeOf 65 = .ok (.iconst 2, 1) := by decide +kernel
theorem dX8_sizeOf_66 : decode cX8_sizeOf 66 = .ok (.aload_n 0, 1) := by decide +kernel
theorem dX8_sizeOf_67 : decode cX8_sizeOf 67 = .ok (.iload_n 1, 1) := by decide +kernel
theorem dX8_sizeOf_68 : decode cX8_sizeOf 68 = .ok (.invokevirtual 329, 3) := by decide +kernel
theorem dX8_sizeOf_71 : decode cX8_sizeOf 71 = .ok (.imul, 1) := by decide +kernel
theorem dX8_sizeOf_72 : decode cX8_sizeOf 72 = .ok (.ireturn, 1) := by decide +kernel
theorem dX8_sizeOf_73 : decode cX8_sizeOf 73 = .ok (.aload_n 0, 1) := by decide +kernel
theorem dX8_sizeOf_74 : decode cX8_sizeOf 74 = .ok (.iload_n 1, 1) := by decide +kernel
theorem dX8_sizeOf_75 : decode cX8_sizeOf 75 = .ok (.invokevirtual 326, 3) := by decide +kernel
theorem dX8_sizeOf_78 : decode cX8_sizeOf 78 = .ok (.ireturn, 1) := by decide +kernel
theorem dX8_lentMark_0 : decode cX8_lentMark 0 = .ok (.aload_n 0, 1) := by decide +kernel
theorem dX8_lentMark_1 : decode cX8_lentMark 1 = .ok (.bipush 20, 2) := by decide +kernel
theorem dX8_lentMark_3 : decode cX8_lentMark 3 = .ok (.invokevirtual 316, 3) := by decide +kernel
theorem dX8_lentMark_6 : decode cX8_lentMark 6 = .ok (.iload_n 1, 1) := by decide +kernel
theorem dX8_lentMark_7 : decode cX8_lentMark 7 = .ok (.ireturn, 1) := by decide +kernel
theorem dX8_plainMark_0 : decode cX8_plainMark 0 = .ok (.aload_n 0, 1) := by decide +kernel
theorem dX8_plainMark_1 : decode cX8_plainMark 1 = .ok (.bipush 21, 2) := by decide +kernel
theorem dX8_plainMark_3 : decode cX8_plainMark 3 = .ok (.invokevirtual 316, 3) := by decide +kernel
theorem dX8_plainMark_6 : decode cX8_plainMark 6 = .ok (.aload_n 0, 1) := by decide +kernel
theorem dX8_plainMark_7 : decode cX8_plainMark 7 = .ok (.iload_n 1, 1) := by decide +kernel
theorem dX8_plainMark_8 : decode cX8_plainMark 8 = .ok (.invokevirtual 332, 3) := by decide +kernel
theorem dX8_plainMark_11 : decode cX8_plainMark 11 = .ok (.istore_n 2, 1) := by decide +kernel
theorem dX8_plainMark_12 : decode cX8_plainMark 12 = .ok (.iload_n 2, 1) := by decide +kernel
theorem dX8_plainMark_13 : decode cX8_plainMark 13 = .ok (.aload_n 0, 1) := by decide +kernel
theorem dX8_plainMark_14 : decode cX8_plainMark 14 = .ok (.iconst 0, 1) := by decide +kernel
theorem dX8_plainMark_15 : decode cX8_plainMark 15 = .ok (.iload_n 1, 1) := by decide +kernel
theorem dX8_plainMark_16 : decode cX8_plainMark 16 = .ok (.invokevirtual 168, 3) := by decide +kernel
theorem dX8_plainMark_19 : decode cX8_plainMark 19 = .ok (.ifCond .ne 7, 3) := by decide +kernel
theorem dX8_plainMark_22 : decode cX8_plainMark 22 = .ok (.iconst 0, 1) := by decide +kernel
theorem dX8_plainMark_23 : decode cX8_plainMark 23 = .ok (.goto 8, 3) := by decide +kernel
theorem dX8_plainMark_26 : decode cX8_plainMark 26 = .ok (.aload_n 0, 1) := by decide +kernel
theorem dX8_plainMark_27 : decode cX8_plainMark 27 = .ok (.iload_n 1, 1) := by decide +kernel
theorem dX8_plainMark_28 : decode cX8_plainMark 28 = .ok (.invokevirtual 147, 3) := by decide +kernel
theorem dX8_plainMark_31 : decode cX8_plainMark 31 = .ok (.iadd, 1) := by decide +kernel
theorem dX8_plainMark_32 : decode cX8_plainMark 32 = .ok (.ireturn, 1) := by decide +kernel
theorem dX8_aboveMark_0 : decode cX8_aboveMark 0 = .ok (.aload_n 0, 1) := by decide +kernel
theorem dX8_aboveMark_1 : decode cX8_aboveMark 1 = .ok (.getfield 7, 3) := by decide +kernel
theorem dX8_aboveMark_4 : decode cX8_aboveMark 4 = .ok (.iconst 2, 1) := by decide +kernel
theorem dX8_aboveMark_5 : decode cX8_aboveMark 5 = .ok (.iload_n 1, 1) := by decide +kernel
theorem dX8_aboveMark_6 : decode cX8_aboveMark 6 = .ok (.iadd, 1) := by decide +kernel
theorem dX8_aboveMark_7 : decode cX8_aboveMark 7 = .ok (.iaload, 1) := by decide +kernel
theorem dX8_aboveMark_8 : decode cX8_aboveMark 8 = .ok (.lookupswitch 58 #[(2, 44), (3, 28)], 28) := by decide +kernel
theorem dX8_aboveMark_36 : decode cX8_aboveMark 36 = .ok (.aload_n 0, 1) := by decide +kernel
theorem dX8_aboveMark_37 : decode cX8_aboveMark 37 = .ok (.bipush 22, 2) := by decide +kernel
theorem dX8_aboveMark_39 : decode cX8_aboveMark 39 = .ok (.invokevirtual 316, 3) := by decide +kernel
theorem dX8_aboveMark_42 : decode cX8_aboveMark 42 = .ok (.aload_n 0, 1) := by decide +kernel
theorem dX8_aboveMark_43 : decode cX8_aboveMark 43 = .ok (.iload_n 1, 1) := by decide +kernel
theorem dX8_aboveMark_44 : decode cX8_aboveMark 44 = .ok (.invokevirtual 335, 3) := by decide +kernel
theorem dX8_aboveMark_47 : decode cX8_aboveMark 47 = .ok (.sipush 1000, 3) := by decide +kernel
theorem dX8_aboveMark_50 : decode cX8_aboveMark 50 = .ok (.isub, 1) := by decide +kernel
theorem dX8_aboveMark_51 : decode cX8_aboveMark 51 = .ok (.ireturn, 1) := by decide +kernel
theorem dX8_aboveMark_52 : decode cX8_aboveMark 52 = .ok (.aload_n 0, 1) := by decide +kernel
theorem dX8_aboveMark_53 : decode cX8_aboveMark 53 = .ok (.bipush 24, 2) := by decide +kernel
theorem dX8_aboveMark_55 : decode cX8_aboveMark 55 = .ok (.invokevirtual 316, 3) := by decide +kernel
theorem dX8_aboveMark_58 : decode cX8_aboveMark 58 = .ok (.iconst 2, 1) := by decide +kernel
theorem dX8_aboveMark_59 : decode cX8_aboveMark 59 = .ok (.aload_n 0, 1) := by decide +kernel
theorem dX8_aboveMark_60 : decode cX8_aboveMark 60 = .ok (.iload_n 1, 1) := by decide +kernel
theorem dX8_aboveMark_61 : decode cX8_aboveMark 61 = .ok (.invokevirtual 335, 3) := by decide +kernel
theorem dX8_aboveMark_64 : decode cX8_aboveMark 64 = .ok (.imul, 1) := by decide +kernel
theorem dX8_aboveMark_65 : decode cX8_aboveMark 65 = .ok (.ireturn, 1) := by decide +kernel
theorem dX8_aboveMark_66 : decode cX8_aboveMark 66 = .ok (.aload_n 0, 1) := by decide +kernel
theorem dX8_aboveMark_67 : decode cX8_aboveMark 67 = .ok (.iload_n 1, 1) := by decide +kernel
theorem dX8_aboveMark_68 : decode cX8_aboveMark 68 = .ok (.invokevirtual 335, 3) := by decide +kernel
theorem dX8_aboveMark_71 : decode cX8_aboveMark 71 = .ok (.ireturn, 1) := by decide +kernel
theorem dX8_belowMark_0 : decode cX8_belowMark 0 = .ok (.aload_n 0, 1) := by decide +kernel
theorem dX8_belowMark_1 : decode cX8_belowMark 1 = .ok (.bipush 23, 2) := by decide +kernel
theorem dX8_belowMark_3 : decode cX8_belowMark 3 = .ok (.invokevirtual 316, 3) := by decide +kernel
theorem dX8_belowMark_6 : decode cX8_belowMark 6 = .ok (.aload_n 0, 1) := by decide +kernel
theorem dX8_belowMark_7 : decode cX8_belowMark 7 = .ok (.iload_n 1, 1) := by decide +kernel
theorem dX8_belowMark_8 : decode cX8_belowMark 8 = .ok (.invokevirtual 332, 3) := by decide +kernel
theorem dX8_belowMark_11 : decode cX8_belowMark 11 = .ok (.istore_n 2, 1) := by decide +kernel
theorem dX8_belowMark_12 : decode cX8_belowMark 12 = .ok (.iload_n 2, 1) := by decide +kernel
theorem dX8_belowMark_13 : decode cX8_belowMark 13 = .ok (.aload_n 0, 1) := by decide +kernel
theorem dX8_belowMark_14 : decode cX8_belowMark 14 = .ok (.iload_n 1, 1) := by decide +kernel
theorem dX8_belowMark_15 : decode cX8_belowMark 15 = .ok (.invokevirtual 338, 3) := by decide +kernel
theorem dX8_belowMark_18 : decode cX8_belowMark 18 = .ok (.isub, 1) := by decide +kernel
theorem dX8_belowMark_19 : decode cX8_belowMark 19 = .ok (.ireturn, 1) := by decide +kernel
theorem dX8_ask_0 : decode cX8_ask 0 = .ok (.aload_n 0, 1) := by decide +kernel
theorem dX8_ask_1 : decode cX8_ask 1 = .ok (.iload_n 1, 1) := by decide +kernel
theorem dX8_ask_2 : decode cX8_ask 2 = .ok (.invokevirtual 154, 3) := by decide +kernel
theorem dX8_ask_5 : decode cX8_ask 5 = .ok (.ifCond .eq 13, 3) := by decide +kernel
theorem dX8_ask_8 : decode cX8_ask 8 = .ok (.iload_n 2, 1) := by decide +kernel
theorem dX8_ask_9 : decode cX8_ask 9 = .ok (.i2l, 1) := by decide +kernel
theorem dX8_ask_10 : decode cX8_ask 10 = .ok (.lconst 0, 1) := by decide +kernel
theorem dX8_ask_11 : decode cX8_ask 11 = .ok (.lconst 1, 1) := by decide +kernel
theorem dX8_ask_12 : decode cX8_ask 12 = .ok (.invokestatic 39, 3) := by decide +kernel
theorem dX8_ask_15 : decode cX8_ask 15 = .ok (.ifCond .ne 6, 3) := by decide +kernel
theorem dX8_ask_18 : decode cX8_ask 18 = .ok (.ldc 49, 2) := by decide +kernel
theorem dX8_ask_20 : decode cX8_ask 20 = .ok (.ireturn, 1) := by decide +kernel
theorem dX8_ask_21 : decode cX8_ask 21 = .ok (.aload_n 0, 1) := by decide +kernel
theorem dX8_ask_22 : decode cX8_ask 22 = .ok (.iconst 0, 1) := by decide +kernel
theorem dX8_ask_23 : decode cX8_ask 23 = .ok (.putfield 313, 3) := by decide +kernel
theorem dX8_ask_26 : decode cX8_ask 26 = .ok (.iload_n 2, 1) := by decide +kernel
theorem dX8_ask_27 : decode cX8_ask 27 = .ok (.ifCond .ne 11, 3) := by decide +kernel
theorem dX8_ask_30 : decode cX8_ask 30 = .ok (.aload_n 0, 1) := by decide +kernel
theorem dX8_ask_31 : decode cX8_ask 31 = .ok (.iload_n 1, 1) := by decide +kernel
theorem dX8_ask_32 : decode cX8_ask 32 = .ok (.invokevirtual 338, 3) := by decide +kernel
theorem dX8_ask_35 : decode cX8_ask 35 = .ok (.goto 25, 3) := by decide +kernel
theorem dX8_ask_38 : decode cX8_ask 38 = .ok (.aload_n 0, 1) := by decide +kernel
theorem dX8_ask_39 : decode cX8_ask 39 = .ok (.iload_n 1, 1) := by decide +kernel
theorem dX8_ask_40 : decode cX8_ask 40 = .ok (.iconst 4, 1) := by decide +kernel
theorem dX8_ask_41 : decode cX8_ask 41 = .ok (.invokevirtual 310, 3) := by decide +kernel
theorem dX8_ask_44 : decode cX8_ask 44 = .ok (.ifCond .eq 11, 3) := by decide +kernel
theorem dX8_ask_47 : decode cX8_ask 47 = .ok (.aload_n 0, 1) := by decide +kernel
theorem dX8_ask_48 : decode cX8_ask 48 = .ok (.iload_n 1, 1) := by decide +kernel
theorem dX8_ask_49 : decode cX8_ask 49 = .ok (.invokevirtual 341, 3) := by decide +kernel
theorem dX8_ask_52 : decode cX8_ask 52 = .ok (.goto 8, 3) := by decide +kernel
theorem dX8_ask_55 : decode cX8_ask 55 = .ok (.aload_n 0, 1) := by decide +kernel
theorem dX8_ask_56 : decode cX8_ask 56 = .ok (.iload_n 1, 1) := by decide +kernel
theorem dX8_ask_57 : decode cX8_ask 57 = .ok (.invokevirtual 323, 3) := by decide +kernel
theorem dX8_ask_60 : decode cX8_ask 60 = .ok (.ireturn, 1) := by decide +kernel
theorem dX8_trace_0 : decode cX8_trace 0 = .ok (.iload_n 1, 1) := by decide +kernel
theorem dX8_trace_1 : decode cX8_trace 1 = .ok (.i2l, 1) := by decide +kernel
theorem dX8_trace_2 : decode cX8_trace 2 = .ok (.lconst 0, 1) := by decide +kernel
theorem dX8_trace_3 : decode cX8_trace 3 = .ok (.aload_n 0, 1) := by decide +kernel
theorem dX8_trace_4 : decode cX8_trace 4 = .ok (.getfield 313, 3) := by decide +kernel
theorem dX8_trace_7 : decode cX8_trace 7 = .ok (.iconst 1, 1) := by decide +kernel
theorem dX8_trace_8 : decode cX8_trace 8 = .ok (.isub, 1) := by decide +kernel
theorem dX8_trace_9 : decode cX8_trace 9 = .ok (.i2l, 1) := by decide +kernel
theorem dX8_trace_10 : decode cX8_trace 10 = .ok (.invokestatic 39, 3) := by decide +kernel
theorem dX8_trace_13 : decode cX8_trace 13 = .ok (.ifCond .eq 12, 3) := by decide +kernel
theorem dX8_trace_16 : decode cX8_trace 16 = .ok (.aload_n 0, 1) := by decide +kernel
theorem dX8_trace_17 : decode cX8_trace 17 = .ok (.getfield 29, 3) := by decide +kernel
theorem dX8_trace_20 : decode cX8_trace 20 = .ok (.iload_n 1, 1) := by decide +kernel
theorem dX8_trace_21 : decode cX8_trace 21 = .ok (.iaload, 1) := by decide +kernel
theorem dX8_trace_22 : decode cX8_trace 22 = .ok (.goto 5, 3) := by decide +kernel
theorem dX8_trace_25 : decode cX8_trace 25 = .ok (.ldc 140, 2) := by decide +kernel
theorem dX8_trace_27 : decode cX8_trace 27 = .ok (.ireturn, 1) := by decide +kernel
theorem dX8_count_0 : decode cX8_count 0 = .ok (.iconst 0, 1) := by decide +kernel
theorem dX8_count_1 : decode cX8_count 1 = .ok (.istore_n 2, 1) := by decide +kernel
theorem dX8_count_2 : decode cX8_count 2 = .ok (.iload_n 1, 1) := by decide +kernel
theorem dX8_count_3 : decode cX8_count 3 = .ok (.tableswitch 108 0 6 #[41, 74, 81, 88, 93, 98, 103], 41) := by decide +kernel
theorem dX8_count_44 : decode cX8_count 44 = .ok (.iconst 0, 1) := by decide +kernel
theorem dX8_count_45 : decode cX8_count 45 = .ok (.istore_n 3, 1) := by decide +kernel
theorem dX8_count_46 : decode cX8_count 46 = .ok (.iload_n 3, 1) := by decide +kernel
theorem dX8_count_47 : decode cX8_count 47 = .ok (.bipush 8, 2) := by decide +kernel
theorem dX8_count_49 : decode cX8_count 49 = .ok (.if_icmp .ge 26, 3) := by decide +kernel
theorem dX8_count_52 : decode cX8_count 52 = .ok (.iload_n 2, 1) := by decide +kernel
theorem dX8_count_53 : decode cX8_count 53 = .ok (.aload_n 0, 1) := by decide +kernel
theorem dX8_count_54 : decode cX8_count 54 = .ok (.getfield 20, 3) := by decide +kernel
theorem dX8_count_57 : decode cX8_count 57 = .ok (.iload_n 3, 1) := by decide +kernel
theorem dX8_count_58 : decode cX8_count 58 = .ok (.iaload, 1) := by decide +kernel
theorem dX8_count_59 : decode cX8_count 59 = .ok (.ifCond .ge 7, 3) := by decide +kernel
theorem dX8_count_62 : decode cX8_count 62 = .ok (.iconst 0, 1) := by decide +kernel
theorem dX8_count_63 : decode cX8_count 63 = .ok (.goto 4, 3) := by decide +kernel
theorem dX8_count_66 : decode cX8_count 66 = .ok (.iconst 1, 1) := by decide +kernel
theorem dX8_count_67 : decode cX8_count 67 = .ok (.iadd, 1) := by decide +kernel
theorem dX8_count_68 : decode cX8_count 68 = .ok (.istore_n 2, 1) := by decide +kernel
theorem dX8_count_69 : decode cX8_count 69 = .ok (.iinc 3 1, 3) := by decide +kernel
theorem dX8_count_72 : decode cX8_count 72 = .ok (.goto (-26), 3) := by decide +kernel
theorem dX8_count_75 : decode cX8_count 75 = .ok (.iload_n 2, 1) := by decide +kernel
theorem dX8_count_76 : decode cX8_count 76 = .ok (.ireturn, 1) := by decide +kernel
theorem dX8_count_77 : decode cX8_count 77 = .ok (.aload_n 0, 1) := by decide +kernel
theorem dX8_count_78 : decode cX8_count 78 = .ok (.getfield 7, 3) := by decide +kernel
theorem dX8_count_81 : decode cX8_count 81 = .ok (.iconst 0, 1) := by decide +kernel
theorem dX8_count_82 : decode cX8_count 82 = .ok (.iaload, 1) := by decide +kernel
theorem dX8_count_83 : decode cX8_count 83 = .ok (.ireturn, 1) := by decide +kernel
theorem dX8_count_84 : decode cX8_count 84 = .ok (.aload_n 0, 1) := by decide +kernel
theorem dX8_count_85 : decode cX8_count 85 = .ok (.getfield 7, 3) := by decide +kernel
theorem dX8_count_88 : decode cX8_count 88 = .ok (.iconst 1, 1) := by decide +kernel
theorem dX8_count_89 : decode cX8_count 89 = .ok (.iaload, 1) := by decide +kernel
theorem dX8_count_90 : decode cX8_count 90 = .ok (.ireturn, 1) := by decide +kernel
theorem dX8_count_91 : decode cX8_count 91 = .ok (.aload_n 0, 1) := by decide +kernel
theorem dX8_count_92 : decode cX8_count 92 = .ok (.invokevirtual 302, 3) := by decide +kernel
theorem dX8_count_95 : decode cX8_count 95 = .ok (.ireturn, 1) := by decide +kernel
theorem dX8_count_96 : decode cX8_count 96 = .ok (.aload_n 0, 1) := by decide +kernel
theorem dX8_count_97 : decode cX8_count 97 = .ok (.invokevirtual 305, 3) := by decide +kernel
theorem dX8_count_100 : decode cX8_count 100 = .ok (.ireturn, 1) := by decide +kernel
theorem dX8_count_101 : decode cX8_count 101 = .ok (.aload_n 0, 1) := by decide +kernel
theorem dX8_count_102 : decode cX8_count 102 = .ok (.getfield 121, 3) := by decide +kernel
theorem dX8_count_105 : decode cX8_count 105 = .ok (.ireturn, 1) := by decide +kernel
theorem dX8_count_106 : decode cX8_count 106 = .ok (.aload_n 0, 1) := by decide +kernel
theorem dX8_count_107 : decode cX8_count 107 = .ok (.getfield 67, 3) := by decide +kernel
theorem dX8_count_110 : decode cX8_count 110 = .ok (.ireturn, 1) := by decide +kernel
theorem dX8_count_111 : decode cX8_count 111 = .ok (.ldc 49, 2) := by decide +kernel
theorem dX8_count_113 : decode cX8_count 113 = .ok (.ireturn, 1) := by decide +kernel
theorem dX8_status_0 : decode cX8_status 0 = .ok (.aload_n 0, 1) := by decide +kernel
theorem dX8_status_1 : decode cX8_status 1 = .ok (.getfield 32, 3) := by decide +kernel
theorem dX8_status_4 : decode cX8_status 4 = .ok (.ireturn, 1) := by decide +kernel
