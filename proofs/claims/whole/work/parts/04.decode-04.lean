theorem dX8_setLevel_26 : decode cX8_setLevel 26 = .ok (.getfield 73, 3) := by decide +kernel
theorem dX8_setLevel_29 : decode cX8_setLevel 29 = .ok (.istore_n 2, 1) := by decide +kernel
theorem dX8_setLevel_30 : decode cX8_setLevel 30 = .ok (.aload_n 0, 1) := by decide +kernel
theorem dX8_setLevel_31 : decode cX8_setLevel 31 = .ok (.iload_n 1, 1) := by decide +kernel
theorem dX8_setLevel_32 : decode cX8_setLevel 32 = .ok (.putfield 73, 3) := by decide +kernel
theorem dX8_setLevel_35 : decode cX8_setLevel 35 = .ok (.aload_n 0, 1) := by decide +kernel
theorem dX8_setLevel_36 : decode cX8_setLevel 36 = .ok (.iconst 0, 1) := by decide +kernel
theorem dX8_setLevel_37 : decode cX8_setLevel 37 = .ok (.putfield 61, 3) := by decide +kernel
theorem dX8_setLevel_40 : decode cX8_setLevel 40 = .ok (.iload_n 2, 1) := by decide +kernel
theorem dX8_setLevel_41 : decode cX8_setLevel 41 = .ok (.ireturn, 1) := by decide +kernel
theorem dX8_waveAt_0 : decode cX8_waveAt 0 = .ok (.aload_n 0, 1) := by decide +kernel
theorem dX8_waveAt_1 : decode cX8_waveAt 1 = .ok (.getfield 13, 3) := by decide +kernel
theorem dX8_waveAt_4 : decode cX8_waveAt 4 = .ok (.iload_n 1, 1) := by decide +kernel
theorem dX8_waveAt_5 : decode cX8_waveAt 5 = .ok (.iaload, 1) := by decide +kernel
theorem dX8_waveAt_6 : decode cX8_waveAt 6 = .ok (.i2l, 1) := by decide +kernel
theorem dX8_waveAt_7 : decode cX8_waveAt 7 = .ok (.lstore_n 3, 1) := by decide +kernel
theorem dX8_waveAt_8 : decode cX8_waveAt 8 = .ok (.ldc2_w 76, 3) := by decide +kernel
theorem dX8_waveAt_11 : decode cX8_waveAt 11 = .ok (.iload_n 2, 1) := by decide +kernel
theorem dX8_waveAt_12 : decode cX8_waveAt 12 = .ok (.aload_n 0, 1) := by decide +kernel
theorem dX8_waveAt_13 : decode cX8_waveAt 13 = .ok (.getfield 16, 3) := by decide +kernel
theorem dX8_waveAt_16 : decode cX8_waveAt 16 = .ok (.iload_n 1, 1) := by decide +kernel
theorem dX8_waveAt_17 : decode cX8_waveAt 17 = .ok (.iaload, 1) := by decide +kernel
theorem dX8_waveAt_18 : decode cX8_waveAt 18 = .ok (.iadd, 1) := by decide +kernel
theorem dX8_waveAt_19 : decode cX8_waveAt 19 = .ok (.i2l, 1) := by decide +kernel
theorem dX8_waveAt_20 : decode cX8_waveAt 20 = .ok (.lload_n 3, 1) := by decide +kernel
theorem dX8_waveAt_21 : decode cX8_waveAt 21 = .ok (.lrem, 1) := by decide +kernel
theorem dX8_waveAt_22 : decode cX8_waveAt 22 = .ok (.lmul, 1) := by decide +kernel
theorem dX8_waveAt_23 : decode cX8_waveAt 23 = .ok (.lstore 5, 2) := by decide +kernel
theorem dX8_waveAt_25 : decode cX8_waveAt 25 = .ok (.lload 5, 2) := by decide +kernel
theorem dX8_waveAt_27 : decode cX8_waveAt 27 = .ok (.lload_n 3, 1) := by decide +kernel
theorem dX8_waveAt_28 : decode cX8_waveAt 28 = .ok (.lcmp, 1) := by decide +kernel
theorem dX8_waveAt_29 : decode cX8_waveAt 29 = .ok (.ifCond .ge 7, 3) := by decide +kernel
theorem dX8_waveAt_32 : decode cX8_waveAt 32 = .ok (.iconst 1, 1) := by decide +kernel
theorem dX8_waveAt_33 : decode cX8_waveAt 33 = .ok (.goto 4, 3) := by decide +kernel
theorem dX8_waveAt_36 : decode cX8_waveAt 36 = .ok (.iconst 0, 1) := by decide +kernel
theorem dX8_waveAt_37 : decode cX8_waveAt 37 = .ok (.istore 7, 2) := by decide +kernel
theorem dX8_waveAt_39 : decode cX8_waveAt 39 = .ok (.iload 7, 2) := by decide +kernel
theorem dX8_waveAt_41 : decode cX8_waveAt 41 = .ok (.ifCond .ne 9, 3) := by decide +kernel
theorem dX8_waveAt_44 : decode cX8_waveAt 44 = .ok (.lload 5, 2) := by decide +kernel
theorem dX8_waveAt_46 : decode cX8_waveAt 46 = .ok (.lload_n 3, 1) := by decide +kernel
theorem dX8_waveAt_47 : decode cX8_waveAt 47 = .ok (.lsub, 1) := by decide +kernel
theorem dX8_waveAt_48 : decode cX8_waveAt 48 = .ok (.lstore 5, 2) := by decide +kernel
theorem dX8_waveAt_50 : decode cX8_waveAt 50 = .ok (.ldc2_w 78, 3) := by decide +kernel
theorem dX8_waveAt_53 : decode cX8_waveAt 53 = .ok (.aload_n 0, 1) := by decide +kernel
theorem dX8_waveAt_54 : decode cX8_waveAt 54 = .ok (.getfield 9, 3) := by decide +kernel
theorem dX8_waveAt_57 : decode cX8_waveAt 57 = .ok (.iload_n 1, 1) := by decide +kernel
theorem dX8_waveAt_58 : decode cX8_waveAt 58 = .ok (.iaload, 1) := by decide +kernel
theorem dX8_waveAt_59 : decode cX8_waveAt 59 = .ok (.i2l, 1) := by decide +kernel
theorem dX8_waveAt_60 : decode cX8_waveAt 60 = .ok (.lmul, 1) := by decide +kernel
theorem dX8_waveAt_61 : decode cX8_waveAt 61 = .ok (.lload 5, 2) := by decide +kernel
theorem dX8_waveAt_63 : decode cX8_waveAt 63 = .ok (.lmul, 1) := by decide +kernel
theorem dX8_waveAt_64 : decode cX8_waveAt 64 = .ok (.lload_n 3, 1) := by decide +kernel
theorem dX8_waveAt_65 : decode cX8_waveAt 65 = .ok (.lload 5, 2) := by decide +kernel
theorem dX8_waveAt_67 : decode cX8_waveAt 67 = .ok (.lsub, 1) := by decide +kernel
theorem dX8_waveAt_68 : decode cX8_waveAt 68 = .ok (.lmul, 1) := by decide +kernel
theorem dX8_waveAt_69 : decode cX8_waveAt 69 = .ok (.lload_n 3, 1) := by decide +kernel
theorem dX8_waveAt_70 : decode cX8_waveAt 70 = .ok (.lload_n 3, 1) := by decide +kernel
theorem dX8_waveAt_71 : decode cX8_waveAt 71 = .ok (.lmul, 1) := by decide +kernel
theorem dX8_waveAt_72 : decode cX8_waveAt 72 = .ok (.ldiv, 1) := by decide +kernel
theorem dX8_waveAt_73 : decode cX8_waveAt 73 = .ok (.lstore 8, 2) := by decide +kernel
theorem dX8_waveAt_75 : decode cX8_waveAt 75 = .ok (.iload 7, 2) := by decide +kernel
theorem dX8_waveAt_77 : decode cX8_waveAt 77 = .ok (.ifCond .eq 8, 3) := by decide +kernel
theorem dX8_waveAt_80 : decode cX8_waveAt 80 = .ok (.lload 8, 2) := by decide +kernel
theorem dX8_waveAt_82 : decode cX8_waveAt 82 = .ok (.goto 6, 3) := by decide +kernel
theorem dX8_waveAt_85 : decode cX8_waveAt 85 = .ok (.lload 8, 2) := by decide +kernel
theorem dX8_waveAt_87 : decode cX8_waveAt 87 = .ok (.lneg, 1) := by decide +kernel
theorem dX8_waveAt_88 : decode cX8_waveAt 88 = .ok (.lreturn, 1) := by decide +kernel
theorem dX8_find_0 : decode cX8_find 0 = .ok (.aload_n 0, 1) := by decide +kernel
theorem dX8_find_1 : decode cX8_find 1 = .ok (.getfield 61, 3) := by decide +kernel
theorem dX8_find_4 : decode cX8_find 4 = .ok (.ifCond .eq 4, 3) := by decide +kernel
theorem dX8_find_7 : decode cX8_find 7 = .ok (.return_, 1) := by decide +kernel
theorem dX8_find_8 : decode cX8_find 8 = .ok (.aload_n 0, 1) := by decide +kernel
theorem dX8_find_9 : decode cX8_find 9 = .ok (.iconst 1, 1) := by decide +kernel
theorem dX8_find_10 : decode cX8_find 10 = .ok (.putfield 61, 3) := by decide +kernel
theorem dX8_find_13 : decode cX8_find 13 = .ok (.iconst 0, 1) := by decide +kernel
theorem dX8_find_14 : decode cX8_find 14 = .ok (.istore_n 1, 1) := by decide +kernel
theorem dX8_find_15 : decode cX8_find 15 = .ok (.iload_n 1, 1) := by decide +kernel
theorem dX8_find_16 : decode cX8_find 16 = .ok (.sipush 4320, 3) := by decide +kernel
theorem dX8_find_19 : decode cX8_find 19 = .ok (.if_icmp .ge 51, 3) := by decide +kernel
theorem dX8_find_22 : decode cX8_find 22 = .ok (.aload_n 0, 1) := by decide +kernel
theorem dX8_find_23 : decode cX8_find 23 = .ok (.getfield 28, 3) := by decide +kernel
theorem dX8_find_26 : decode cX8_find 26 = .ok (.iload_n 1, 1) := by decide +kernel
theorem dX8_find_27 : decode cX8_find 27 = .ok (.aload_n 0, 1) := by decide +kernel
theorem dX8_find_28 : decode cX8_find 28 = .ok (.getfield 73, 3) := by decide +kernel
theorem dX8_find_31 : decode cX8_find 31 = .ok (.i2l, 1) := by decide +kernel
theorem dX8_find_32 : decode cX8_find 32 = .ok (.lastore, 1) := by decide +kernel
theorem dX8_find_33 : decode cX8_find 33 = .ok (.iconst 0, 1) := by decide +kernel
theorem dX8_find_34 : decode cX8_find 34 = .ok (.istore_n 2, 1) := by decide +kernel
theorem dX8_find_35 : decode cX8_find 35 = .ok (.iload_n 2, 1) := by decide +kernel
theorem dX8_find_36 : decode cX8_find 36 = .ok (.aload_n 0, 1) := by decide +kernel
theorem dX8_find_37 : decode cX8_find 37 = .ok (.getfield 45, 3) := by decide +kernel
theorem dX8_find_40 : decode cX8_find 40 = .ok (.if_icmp .ge 24, 3) := by decide +kernel
theorem dX8_find_43 : decode cX8_find 43 = .ok (.aload_n 0, 1) := by decide +kernel
theorem dX8_find_44 : decode cX8_find 44 = .ok (.getfield 28, 3) := by decide +kernel
theorem dX8_find_47 : decode cX8_find 47 = .ok (.iload_n 1, 1) := by decide +kernel
theorem dX8_find_48 : decode cX8_find 48 = .ok (.dup2, 1) := by decide +kernel
theorem dX8_find_49 : decode cX8_find 49 = .ok (.laload, 1) := by decide +kernel
theorem dX8_find_50 : decode cX8_find 50 = .ok (.aload_n 0, 1) := by decide +kernel
theorem dX8_find_51 : decode cX8_find 51 = .ok (.iload_n 2, 1) := by decide +kernel
theorem dX8_find_52 : decode cX8_find 52 = .ok (.iload_n 1, 1) := by decide +kernel
theorem dX8_find_53 : decode cX8_find 53 = .ok (.invokevirtual 80, 3) := by decide +kernel
theorem dX8_find_56 : decode cX8_find 56 = .ok (.ladd, 1) := by decide +kernel
theorem dX8_find_57 : decode cX8_find 57 = .ok (.lastore, 1) := by decide +kernel
theorem dX8_find_58 : decode cX8_find 58 = .ok (.iinc 2 1, 3) := by decide +kernel
theorem dX8_find_61 : decode cX8_find 61 = .ok (.goto (-26), 3) := by decide +kernel
theorem dX8_find_64 : decode cX8_find 64 = .ok (.iinc 1 1, 3) := by decide +kernel
theorem dX8_find_67 : decode cX8_find 67 = .ok (.goto (-52), 3) := by decide +kernel
theorem dX8_find_70 : decode cX8_find 70 = .ok (.aload_n 0, 1) := by decide +kernel
theorem dX8_find_71 : decode cX8_find 71 = .ok (.iconst 0, 1) := by decide +kernel
theorem dX8_find_72 : decode cX8_find 72 = .ok (.putfield 84, 3) := by decide +kernel
theorem dX8_find_75 : decode cX8_find 75 = .ok (.iconst 1, 1) := by decide +kernel
theorem dX8_find_76 : decode cX8_find 76 = .ok (.istore_n 1, 1) := by decide +kernel
theorem dX8_find_77 : decode cX8_find 77 = .ok (.iload_n 1, 1) := by decide +kernel
theorem dX8_find_78 : decode cX8_find 78 = .ok (.sipush 4319, 3) := by decide +kernel
theorem dX8_find_81 : decode cX8_find 81 = .ok (.if_icmp .ge 163, 3) := by decide +kernel
theorem dX8_find_84 : decode cX8_find 84 = .ok (.iload_n 1, 1) := by decide +kernel
theorem dX8_find_85 : decode cX8_find 85 = .ok (.iconst 1, 1) := by decide +kernel
theorem dX8_find_86 : decode cX8_find 86 = .ok (.iadd, 1) := by decide +kernel
theorem dX8_find_87 : decode cX8_find 87 = .ok (.istore_n 2, 1) := by decide +kernel
theorem dX8_find_88 : decode cX8_find 88 = .ok (.iload_n 2, 1) := by decide +kernel
theorem dX8_find_89 : decode cX8_find 89 = .ok (.sipush 4320, 3) := by decide +kernel
theorem dX8_find_92 : decode cX8_find 92 = .ok (.if_icmp .ge 25, 3) := by decide +kernel
theorem dX8_find_95 : decode cX8_find 95 = .ok (.aload_n 0, 1) := by decide +kernel
theorem dX8_find_96 : decode cX8_find 96 = .ok (.getfield 28, 3) := by decide +kernel
theorem dX8_find_99 : decode cX8_find 99 = .ok (.iload_n 2, 1) := by decide +kernel
theorem dX8_find_100 : decode cX8_find 100 = .ok (.laload, 1) := by decide +kernel
theorem dX8_find_101 : decode cX8_find 101 = .ok (.aload_n 0, 1) := by decide +kernel
theorem dX8_find_102 : decode cX8_find 102 = .ok (.getfield 28, 3) := by decide +kernel
theorem dX8_find_105 : decode cX8_find 105 = .ok (.iload_n 1, 1) := by decide +kernel
theorem dX8_find_106 : decode cX8_find 106 = .ok (.laload, 1) := by decide +kernel
theorem dX8_find_107 : decode cX8_find 107 = .ok (.lcmp, 1) := by decide +kernel
theorem dX8_find_108 : decode cX8_find 108 = .ok (.ifCond .ne 9, 3) := by decide +kernel
theorem dX8_find_111 : decode cX8_find 111 = .ok (.iinc 2 1, 3) := by decide +kernel
theorem dX8_find_114 : decode cX8_find 114 = .ok (.goto (-26), 3) := by decide +kernel
theorem dX8_find_117 : decode cX8_find 117 = .ok (.iload_n 2, 1) := by decide +kernel
theorem dX8_find_118 : decode cX8_find 118 = .ok (.sipush 4320, 3) := by decide +kernel
theorem dX8_find_121 : decode cX8_find 121 = .ok (.if_icmp .ne 4, 3) := by decide +kernel
theorem dX8_find_124 : decode cX8_find 124 = .ok (.return_, 1) := by decide +kernel
theorem dX8_find_125 : decode cX8_find 125 = .ok (.aload_n 0, 1) := by decide +kernel
theorem dX8_find_126 : decode cX8_find 126 = .ok (.getfield 28, 3) := by decide +kernel
theorem dX8_find_129 : decode cX8_find 129 = .ok (.iload_n 1, 1) := by decide +kernel
theorem dX8_find_130 : decode cX8_find 130 = .ok (.laload, 1) := by decide +kernel
theorem dX8_find_131 : decode cX8_find 131 = .ok (.aload_n 0, 1) := by decide +kernel
theorem dX8_find_132 : decode cX8_find 132 = .ok (.getfield 28, 3) := by decide +kernel
theorem dX8_find_135 : decode cX8_find 135 = .ok (.iload_n 1, 1) := by decide +kernel
theorem dX8_find_136 : decode cX8_find 136 = .ok (.iconst 1, 1) := by decide +kernel
theorem dX8_find_137 : decode cX8_find 137 = .ok (.isub, 1) := by decide +kernel
theorem dX8_find_138 : decode cX8_find 138 = .ok (.laload, 1) := by decide +kernel
theorem dX8_find_139 : decode cX8_find 139 = .ok (.lcmp, 1) := by decide +kernel
theorem dX8_find_140 : decode cX8_find 140 = .ok (.ifCond .le 23, 3) := by decide +kernel
theorem dX8_find_143 : decode cX8_find 143 = .ok (.aload_n 0, 1) := by decide +kernel
theorem dX8_find_144 : decode cX8_find 144 = .ok (.getfield 28, 3) := by decide +kernel
theorem dX8_find_147 : decode cX8_find 147 = .ok (.iload_n 2, 1) := by decide +kernel
theorem dX8_find_148 : decode cX8_find 148 = .ok (.laload, 1) := by decide +kernel
theorem dX8_find_149 : decode cX8_find 149 = .ok (.aload_n 0, 1) := by decide +kernel
theorem dX8_find_150 : decode cX8_find 150 = .ok (.getfield 28, 3) := by decide +kernel
theorem dX8_find_153 : decode cX8_find 153 = .ok (.iload_n 1, 1) := by decide +kernel
theorem dX8_find_154 : decode cX8_find 154 = .ok (.laload, 1) := by decide +kernel
theorem dX8_find_155 : decode cX8_find 155 = .ok (.lcmp, 1) := by decide +kernel
theorem dX8_find_156 : decode cX8_find 156 = .ok (.ifCond .ge 7, 3) := by decide +kernel
theorem dX8_find_159 : decode cX8_find 159 = .ok (.iconst 1, 1) := by decide +kernel
theorem dX8_find_160 : decode cX8_find 160 = .ok (.goto 4, 3) := by decide +kernel
theorem dX8_find_163 : decode cX8_find 163 = .ok (.iconst 0, 1) := by decide +kernel
theorem dX8_find_164 : decode cX8_find 164 = .ok (.istore_n 3, 1) := by decide +kernel
theorem dX8_find_165 : decode cX8_find 165 = .ok (.aload_n 0, 1) := by decide +kernel
theorem dX8_find_166 : decode cX8_find 166 = .ok (.getfield 28, 3) := by decide +kernel
theorem dX8_find_169 : decode cX8_find 169 = .ok (.iload_n 1, 1) := by decide +kernel
theorem dX8_find_170 : decode cX8_find 170 = .ok (.laload, 1) := by decide +kernel
theorem dX8_find_171 : decode cX8_find 171 = .ok (.aload_n 0, 1) := by decide +kernel
theorem dX8_find_172 : decode cX8_find 172 = .ok (.getfield 28, 3) := by decide +kernel
theorem dX8_find_175 : decode cX8_find 175 = .ok (.iload_n 1, 1) := by decide +kernel
theorem dX8_find_176 : decode cX8_find 176 = .ok (.iconst 1, 1) := by decide +kernel
theorem dX8_find_177 : decode cX8_find 177 = .ok (.isub, 1) := by decide +kernel
theorem dX8_find_178 : decode cX8_find 178 = .ok (.laload, 1) := by decide +kernel
theorem dX8_find_179 : decode cX8_find 179 = .ok (.lcmp, 1) := by decide +kernel
theorem dX8_find_180 : decode cX8_find 180 = .ok (.ifCond .ge 23, 3) := by decide +kernel
theorem dX8_find_183 : decode cX8_find 183 = .ok (.aload_n 0, 1) := by decide +kernel
theorem dX8_find_184 : decode cX8_find 184 = .ok (.getfield 28, 3) := by decide +kernel
theorem dX8_find_187 : decode cX8_find 187 = .ok (.iload_n 2, 1) := by decide +kernel
theorem dX8_find_188 : decode cX8_find 188 = .ok (.laload, 1) := by decide +kernel
theorem dX8_find_189 : decode cX8_find 189 = .ok (.aload_n 0, 1) := by decide +kernel
theorem dX8_find_190 : decode cX8_find 190 = .ok (.getfield 28, 3) := by decide +kernel
theorem dX8_find_193 : decode cX8_find 193 = .ok (.iload_n 1, 1) := by decide +kernel
theorem dX8_find_194 : decode cX8_find 194 = .ok (.laload, 1) := by decide +kernel
theorem dX8_find_195 : decode cX8_find 195 = .ok (.lcmp, 1) := by decide +kernel
theorem dX8_find_196 : decode cX8_find 196 = .ok (.ifCond .le 7, 3) := by decide +kernel
theorem dX8_find_199 : decode cX8_find 199 = .ok (.iconst 1, 1) := by decide +kernel
theorem dX8_find_200 : decode cX8_find 200 = .ok (.goto 4, 3) := by decide +kernel
theorem dX8_find_203 : decode cX8_find 203 = .ok (.iconst 0, 1) := by decide +kernel
theorem dX8_find_204 : decode cX8_find 204 = .ok (.istore 4, 2) := by decide +kernel
theorem dX8_find_206 : decode cX8_find 206 = .ok (.iload_n 3, 1) := by decide +kernel
theorem dX8_find_207 : decode cX8_find 207 = .ok (.ifCond .ne 11, 3) := by decide +kernel
theorem dX8_find_210 : decode cX8_find 210 = .ok (.iload 4, 2) := by decide +kernel
theorem dX8_find_212 : decode cX8_find 212 = .ok (.ifCond .ne 6, 3) := by decide +kernel
theorem dX8_find_215 : decode cX8_find 215 = .ok (.goto 23, 3) := by decide +kernel
theorem dX8_find_218 : decode cX8_find 218 = .ok (.aload_n 0, 1) := by decide +kernel
theorem dX8_find_219 : decode cX8_find 219 = .ok (.getfield 32, 3) := by decide +kernel
theorem dX8_find_222 : decode cX8_find 222 = .ok (.aload_n 0, 1) := by decide +kernel
theorem dX8_find_223 : decode cX8_find 223 = .ok (.getfield 84, 3) := by decide +kernel
theorem dX8_find_226 : decode cX8_find 226 = .ok (.iload_n 1, 1) := by decide +kernel
theorem dX8_find_227 : decode cX8_find 227 = .ok (.iastore, 1) := by decide +kernel
theorem dX8_find_228 : decode cX8_find 228 = .ok (.aload_n 0, 1) := by decide +kernel
theorem dX8_find_229 : decode cX8_find 229 = .ok (.dup, 1) := by decide +kernel
theorem dX8_find_230 : decode cX8_find 230 = .ok (.getfield 84, 3) := by decide +kernel
theorem dX8_find_233 : decode cX8_find 233 = .ok (.iconst 1, 1) := by decide +kernel
theorem dX8_find_234 : decode cX8_find 234 = .ok (.iadd, 1) := by decide +kernel
theorem dX8_find_235 : decode cX8_find 235 = .ok (.putfield 84, 3) := by decide +kernel
theorem dX8_find_238 : decode cX8_find 238 = .ok (.iinc 1 1, 3) := by decide +kernel
theorem dX8_find_241 : decode cX8_find 241 = .ok (.goto (-164), 3) := by decide +kernel
theorem dX8_find_244 : decode cX8_find 244 = .ok (.return_, 1) := by decide +kernel
theorem dX8_isHigh_0 : decode cX8_isHigh 0 = .ok (.aload_n 0, 1) := by decide +kernel
theorem dX8_isHigh_1 : decode cX8_isHigh 1 = .ok (.getfield 28, 3) := by decide +kernel
theorem dX8_isHigh_4 : decode cX8_isHigh 4 = .ok (.aload_n 0, 1) := by decide +kernel
theorem dX8_isHigh_5 : decode cX8_isHigh 5 = .ok (.getfield 32, 3) := by decide +kernel
theorem dX8_isHigh_8 : decode cX8_isHigh 8 = .ok (.iload_n 1, 1) := by decide +kernel
theorem dX8_isHigh_9 : decode cX8_isHigh 9 = .ok (.iaload, 1) := by decide +kernel
theorem dX8_isHigh_10 : decode cX8_isHigh 10 = .ok (.laload, 1) := by decide +kernel
theorem dX8_isHigh_11 : decode cX8_isHigh 11 = .ok (.aload_n 0, 1) := by decide +kernel
theorem dX8_isHigh_12 : decode cX8_isHigh 12 = .ok (.getfield 28, 3) := by decide +kernel
theorem dX8_isHigh_15 : decode cX8_isHigh 15 = .ok (.aload_n 0, 1) := by decide +kernel
theorem dX8_isHigh_16 : decode cX8_isHigh 16 = .ok (.getfield 32, 3) := by decide +kernel
theorem dX8_isHigh_19 : decode cX8_isHigh 19 = .ok (.iload_n 1, 1) := by decide +kernel
theorem dX8_isHigh_20 : decode cX8_isHigh 20 = .ok (.iaload, 1) := by decide +kernel
theorem dX8_isHigh_21 : decode cX8_isHigh 21 = .ok (.iconst 1, 1) := by decide +kernel
theorem dX8_isHigh_22 : decode cX8_isHigh 22 = .ok (.isub, 1) := by decide +kernel
theorem dX8_isHigh_23 : decode cX8_isHigh 23 = .ok (.laload, 1) := by decide +kernel
theorem dX8_isHigh_24 : decode cX8_isHigh 24 = .ok (.lcmp, 1) := by decide +kernel
theorem dX8_isHigh_25 : decode cX8_isHigh 25 = .ok (.ifCond .le 7, 3) := by decide +kernel
theorem dX8_isHigh_28 : decode cX8_isHigh 28 = .ok (.iconst 1, 1) := by decide +kernel
theorem dX8_isHigh_29 : decode cX8_isHigh 29 = .ok (.goto 4, 3) := by decide +kernel
theorem dX8_isHigh_32 : decode cX8_isHigh 32 = .ok (.iconst 0, 1) := by decide +kernel
theorem dX8_isHigh_33 : decode cX8_isHigh 33 = .ok (.ireturn, 1) := by decide +kernel
theorem dX8_height_0 : decode cX8_height 0 = .ok (.aload_n 0, 1) := by decide +kernel
theorem dX8_height_1 : decode cX8_height 1 = .ok (.iconst 0, 1) := by decide +kernel
theorem dX8_height_2 : decode cX8_height 2 = .ok (.putfield 35, 3) := by decide +kernel
theorem dX8_height_5 : decode cX8_height 5 = .ok (.iload_n 1, 1) := by decide +kernel
theorem dX8_height_6 : decode cX8_height 6 = .ok (.invokestatic 87, 3) := by decide +kernel
theorem dX8_height_9 : decode cX8_height 9 = .ok (.ifCond .ne 9, 3) := by decide +kernel
theorem dX8_height_12 : decode cX8_height 12 = .ok (.aload_n 0, 1) := by decide +kernel
theorem dX8_height_13 : decode cX8_height 13 = .ok (.iconst 1, 1) := by decide +kernel
theorem dX8_height_14 : decode cX8_height 14 = .ok (.invokevirtual 57, 3) := by decide +kernel
theorem dX8_height_17 : decode cX8_height 17 = .ok (.ireturn, 1) := by decide +kernel
theorem dX8_height_18 : decode cX8_height 18 = .ok (.aload_n 0, 1) := by decide +kernel
theorem dX8_height_19 : decode cX8_height 19 = .ok (.invokevirtual 90, 3) := by decide +kernel
theorem dX8_height_22 : decode cX8_height 22 = .ok (.aload_n 0, 1) := by decide +kernel
theorem dX8_height_23 : decode cX8_height 23 = .ok (.getfield 28, 3) := by decide +kernel
theorem dX8_height_26 : decode cX8_height 26 = .ok (.iload_n 1, 1) := by decide +kernel
theorem dX8_height_27 : decode cX8_height 27 = .ok (.laload, 1) := by decide +kernel
theorem dX8_height_28 : decode cX8_height 28 = .ok (.l2i, 1) := by decide +kernel
theorem dX8_height_29 : decode cX8_height 29 = .ok (.ireturn, 1) := by decide +kernel
theorem dX8_waveHeight_0 : decode cX8_waveHeight 0 = .ok (.aload_n 0, 1) := by decide +kernel
theorem dX8_waveHeight_1 : decode cX8_waveHeight 1 = .ok (.iconst 0, 1) := by decide +kernel
theorem dX8_waveHeight_2 : decode cX8_waveHeight 2 = .ok (.putfield 35, 3) := by decide +kernel
theorem dX8_waveHeight_5 : decode cX8_waveHeight 5 = .ok (.aload_n 0, 1) := by decide +kernel
theorem dX8_waveHeight_6 : decode cX8_waveHeight 6 = .ok (.iload_n 1, 1) := by decide +kernel
theorem dX8_waveHeight_7 : decode cX8_waveHeight 7 = .ok (.invokevirtual 65, 3) := by decide +kernel
theorem dX8_waveHeight_10 : decode cX8_waveHeight 10 = .ok (.ifCond .ne 9, 3) := by decide +kernel
theorem dX8_waveHeight_13 : decode cX8_waveHeight 13 = .ok (.aload_n 0, 1) := by decide +kernel
theorem dX8_waveHeight_14 : decode cX8_waveHeight 14 = .ok (.iconst 1, 1) := by decide +kernel
theorem dX8_waveHeight_15 : decode cX8_waveHeight 15 = .ok (.invokevirtual 57, 3) := by decide +kernel
theorem dX8_waveHeight_18 : decode cX8_waveHeight 18 = .ok (.ireturn, 1) := by decide +kernel
theorem dX8_waveHeight_19 : decode cX8_waveHeight 19 = .ok (.iload_n 2, 1) := by decide +kernel
theorem dX8_waveHeight_20 : decode cX8_waveHeight 20 = .ok (.invokestatic 87, 3) := by decide +kernel
theorem dX8_waveHeight_23 : decode cX8_waveHeight 23 = .ok (.ifCond .eq 13, 3) := by decide +kernel
theorem dX8_waveHeight_26 : decode cX8_waveHeight 26 = .ok (.aload_n 0, 1) := by decide +kernel
theorem dX8_waveHeight_27 : decode cX8_waveHeight 27 = .ok (.iload_n 1, 1) := by decide +kernel
theorem dX8_waveHeight_28 : decode cX8_waveHeight 28 = .ok (.iload_n 2, 1) := by decide +kernel
theorem dX8_waveHeight_29 : decode cX8_waveHeight 29 = .ok (.invokevirtual 80, 3) := by decide +kernel
theorem dX8_waveHeight_32 : decode cX8_waveHeight 32 = .ok (.l2i, 1) := by decide +kernel
theorem dX8_waveHeight_33 : decode cX8_waveHeight 33 = .ok (.goto 8, 3) := by decide +kernel
theorem dX8_waveHeight_36 : decode cX8_waveHeight 36 = .ok (.aload_n 0, 1) := by decide +kernel
theorem dX8_waveHeight_37 : decode cX8_waveHeight 37 = .ok (.iconst 2, 1) := by decide +kernel
theorem dX8_waveHeight_38 : decode cX8_waveHeight 38 = .ok (.invokevirtual 57, 3) := by decide +kernel
theorem dX8_waveHeight_41 : decode cX8_waveHeight 41 = .ok (.ireturn, 1) := by decide +kernel
theorem dX8_counted_0 : decode cX8_counted 0 = .ok (.aload_n 0, 1) := by decide +kernel
theorem dX8_counted_1 : decode cX8_counted 1 = .ok (.invokevirtual 90, 3) := by decide +kernel
theorem dX8_counted_4 : decode cX8_counted 4 = .ok (.iload_n 1, 1) := by decide +kernel
theorem dX8_counted_5 : decode cX8_counted 5 = .ok (.ifCond .ne 10, 3) := by decide +kernel
theorem dX8_counted_8 : decode cX8_counted 8 = .ok (.aload_n 0, 1) := by decide +kernel
theorem dX8_counted_9 : decode cX8_counted 9 = .ok (.getfield 45, 3) := by decide +kernel
theorem dX8_counted_12 : decode cX8_counted 12 = .ok (.goto 31, 3) := by decide +kernel
theorem dX8_counted_15 : decode cX8_counted 15 = .ok (.iload_n 1, 1) := by decide +kernel
theorem dX8_counted_16 : decode cX8_counted 16 = .ok (.iconst 1, 1) := by decide +kernel
theorem dX8_counted_17 : decode cX8_counted 17 = .ok (.if_icmp .ne 10, 3) := by decide +kernel
theorem dX8_counted_20 : decode cX8_counted 20 = .ok (.aload_n 0, 1) := by decide +kernel
theorem dX8_counted_21 : decode cX8_counted 21 = .ok (.getfield 84, 3) := by decide +kernel
theorem dX8_counted_24 : decode cX8_counted 24 = .ok (.goto 19, 3) := by decide +kernel
theorem dX8_counted_27 : decode cX8_counted 27 = .ok (.iload_n 1, 1) := by decide +kernel
theorem dX8_counted_28 : decode cX8_counted 28 = .ok (.iconst 2, 1) := by decide +kernel
theorem dX8_counted_29 : decode cX8_counted 29 = .ok (.if_icmp .ne 10, 3) := by decide +kernel
theorem dX8_counted_32 : decode cX8_counted 32 = .ok (.aload_n 0, 1) := by decide +kernel
theorem dX8_counted_33 : decode cX8_counted 33 = .ok (.getfield 48, 3) := by decide +kernel
theorem dX8_counted_36 : decode cX8_counted 36 = .ok (.goto 7, 3) := by decide +kernel
theorem dX8_counted_39 : decode cX8_counted 39 = .ok (.aload_n 0, 1) := by decide +kernel
theorem dX8_counted_40 : decode cX8_counted 40 = .ok (.getfield 93, 3) := by decide +kernel
theorem dX8_counted_43 : decode cX8_counted 43 = .ok (.ireturn, 1) := by decide +kernel
theorem dX8_count_0 : decode cX8_count 0 = .ok (.aload_n 0, 1) := by decide +kernel
theorem dX8_count_1 : decode cX8_count 1 = .ok (.iconst 0, 1) := by decide +kernel
theorem dX8_count_2 : decode cX8_count 2 = .ok (.putfield 35, 3) := by decide +kernel
theorem dX8_count_5 : decode cX8_count 5 = .ok (.iload_n 1, 1) := by decide +kernel
theorem dX8_count_6 : decode cX8_count 6 = .ok (.i2l, 1) := by decide +kernel
theorem dX8_count_7 : decode cX8_count 7 = .ok (.lconst 0, 1) := by decide +kernel
theorem dX8_count_8 : decode cX8_count 8 = .ok (.ldc2_w 96, 3) := by decide +kernel
theorem dX8_count_11 : decode cX8_count 11 = .ok (.invokestatic 41, 3) := by decide +kernel
theorem dX8_count_14 : decode cX8_count 14 = .ok (.ifCond .eq 11, 3) := by decide +kernel
theorem dX8_count_17 : decode cX8_count 17 = .ok (.aload_n 0, 1) := by decide +kernel
theorem dX8_count_18 : decode cX8_count 18 = .ok (.iload_n 1, 1) := by decide +kernel
theorem dX8_count_19 : decode cX8_count 19 = .ok (.invokevirtual 98, 3) := by decide +kernel
theorem dX8_count_22 : decode cX8_count 22 = .ok (.goto 8, 3) := by decide +kernel
theorem dX8_count_25 : decode cX8_count 25 = .ok (.aload_n 0, 1) := by decide +kernel
theorem dX8_count_26 : decode cX8_count 26 = .ok (.iconst 1, 1) := by decide +kernel
theorem dX8_count_27 : decode cX8_count 27 = .ok (.invokevirtual 57, 3) := by decide +kernel
theorem dX8_count_30 : decode cX8_count 30 = .ok (.ireturn, 1) := by decide +kernel
theorem dX8_waterTold_0 : decode cX8_waterTold 0 = .ok (.iload_n 2, 1) := by decide +kernel
theorem dX8_waterTold_1 : decode cX8_waterTold 1 = .ok (.ifCond .ne 12, 3) := by decide +kernel
theorem dX8_waterTold_4 : decode cX8_waterTold 4 = .ok (.aload_n 0, 1) := by decide +kernel
theorem dX8_waterTold_5 : decode cX8_waterTold 5 = .ok (.getfield 32, 3) := by decide +kernel
theorem dX8_waterTold_8 : decode cX8_waterTold 8 = .ok (.iload_n 1, 1) := by decide +kernel
theorem dX8_waterTold_9 : decode cX8_waterTold 9 = .ok (.iaload, 1) := by decide +kernel
theorem dX8_waterTold_10 : decode cX8_waterTold 10 = .ok (.goto 36, 3) := by decide +kernel
theorem dX8_waterTold_13 : decode cX8_waterTold 13 = .ok (.iload_n 2, 1) := by decide +kernel
theorem dX8_waterTold_14 : decode cX8_waterTold 14 = .ok (.iconst 1, 1) := by decide +kernel
theorem dX8_waterTold_15 : decode cX8_waterTold 15 = .ok (.if_icmp .ne 18, 3) := by decide +kernel
theorem dX8_waterTold_18 : decode cX8_waterTold 18 = .ok (.aload_n 0, 1) := by decide +kernel
theorem dX8_waterTold_19 : decode cX8_waterTold 19 = .ok (.getfield 28, 3) := by decide +kernel
theorem dX8_waterTold_22 : decode cX8_waterTold 22 = .ok (.aload_n 0, 1) := by decide +kernel
theorem dX8_waterTold_23 : decode cX8_waterTold 23 = .ok (.getfield 32, 3) := by decide +kernel
theorem dX8_waterTold_26 : decode cX8_waterTold 26 = .ok (.iload_n 1, 1) := by decide +kernel
theorem dX8_waterTold_27 : decode cX8_waterTold 27 = .ok (.iaload, 1) := by decide +kernel
theorem dX8_waterTold_28 : decode cX8_waterTold 28 = .ok (.laload, 1) := by decide +kernel
theorem dX8_waterTold_29 : decode cX8_waterTold 29 = .ok (.l2i, 1) := by decide +kernel
theorem dX8_waterTold_30 : decode cX8_waterTold 30 = .ok (.goto 16, 3) := by decide +kernel
theorem dX8_waterTold_33 : decode cX8_waterTold 33 = .ok (.aload_n 0, 1) := by decide +kernel
theorem dX8_waterTold_34 : decode cX8_waterTold 34 = .ok (.iload_n 1, 1) := by decide +kernel
theorem dX8_waterTold_35 : decode cX8_waterTold 35 = .ok (.invokevirtual 101, 3) := by decide +kernel
theorem dX8_waterTold_38 : decode cX8_waterTold 38 = .ok (.ifCond .eq 7, 3) := by decide +kernel
theorem dX8_waterTold_41 : decode cX8_waterTold 41 = .ok (.iconst 1, 1) := by decide +kernel
theorem dX8_waterTold_42 : decode cX8_waterTold 42 = .ok (.goto 4, 3) := by decide +kernel
theorem dX8_waterTold_45 : decode cX8_waterTold 45 = .ok (.iconst 0, 1) := by decide +kernel
theorem dX8_waterTold_46 : decode cX8_waterTold 46 = .ok (.ireturn, 1) := by decide +kernel
theorem dX8_water_0 : decode cX8_water 0 = .ok (.aload_n 0, 1) := by decide +kernel
theorem dX8_water_1 : decode cX8_water 1 = .ok (.iconst 0, 1) := by decide +kernel
theorem dX8_water_2 : decode cX8_water 2 = .ok (.putfield 35, 3) := by decide +kernel
theorem dX8_water_5 : decode cX8_water 5 = .ok (.aload_n 0, 1) := by decide +kernel
theorem dX8_water_6 : decode cX8_water 6 = .ok (.invokevirtual 90, 3) := by decide +kernel
theorem dX8_water_9 : decode cX8_water 9 = .ok (.iload_n 1, 1) := by decide +kernel
theorem dX8_water_10 : decode cX8_water 10 = .ok (.i2l, 1) := by decide +kernel
theorem dX8_water_11 : decode cX8_water 11 = .ok (.lconst 0, 1) := by decide +kernel
theorem dX8_water_12 : decode cX8_water 12 = .ok (.aload_n 0, 1) := by decide +kernel
theorem dX8_water_13 : decode cX8_water 13 = .ok (.getfield 84, 3) := by decide +kernel
theorem dX8_water_16 : decode cX8_water 16 = .ok (.iconst 1, 1) := by decide +kernel
theorem dX8_water_17 : decode cX8_water 17 = .ok (.isub, 1) := by decide +kernel
theorem dX8_water_18 : decode cX8_water 18 = .ok (.i2l, 1) := by decide +kernel
theorem dX8_water_19 : decode cX8_water 19 = .ok (.invokestatic 41, 3) := by decide +kernel
theorem dX8_water_22 : decode cX8_water 22 = .ok (.ifCond .eq 24, 3) := by decide +kernel
theorem dX8_water_25 : decode cX8_water 25 = .ok (.iload_n 2, 1) := by decide +kernel
theorem dX8_water_26 : decode cX8_water 26 = .ok (.i2l, 1) := by decide +kernel
theorem dX8_water_27 : decode cX8_water 27 = .ok (.lconst 0, 1) := by decide +kernel
theorem dX8_water_28 : decode cX8_water 28 = .ok (.ldc2_w 76, 3) := by decide +kernel
theorem dX8_water_31 : decode cX8_water 31 = .ok (.invokestatic 41, 3) := by decide +kernel
theorem dX8_water_34 : decode cX8_water 34 = .ok (.ifCond .eq 12, 3) := by decide +kernel
theorem dX8_water_37 : decode cX8_water 37 = .ok (.aload_n 0, 1) := by decide +kernel
theorem dX8_water_38 : decode cX8_water 38 = .ok (.iload_n 1, 1) := by decide +kernel
theorem dX8_water_39 : decode cX8_water 39 = .ok (.iload_n 2, 1) := by decide +kernel
theorem dX8_water_40 : decode cX8_water 40 = .ok (.invokevirtual 104, 3) := by decide +kernel
theorem dX8_water_43 : decode cX8_water 43 = .ok (.goto 8, 3) := by decide +kernel
theorem dX8_water_46 : decode cX8_water 46 = .ok (.aload_n 0, 1) := by decide +kernel
theorem dX8_water_47 : decode cX8_water 47 = .ok (.iconst 1, 1) := by decide +kernel
theorem dX8_water_48 : decode cX8_water 48 = .ok (.invokevirtual 57, 3) := by decide +kernel
theorem dX8_water_51 : decode cX8_water 51 = .ok (.ireturn, 1) := by decide +kernel
theorem dX8_next_0 : decode cX8_next 0 = .ok (.aload_n 0, 1) := by decide +kernel
theorem dX8_next_1 : decode cX8_next 1 = .ok (.iconst 0, 1) := by decide +kernel
theorem dX8_next_2 : decode cX8_next 2 = .ok (.putfield 35, 3) := by decide +kernel
theorem dX8_next_5 : decode cX8_next 5 = .ok (.iload_n 1, 1) := by decide +kernel
theorem dX8_next_6 : decode cX8_next 6 = .ok (.invokestatic 87, 3) := by decide +kernel
theorem dX8_next_9 : decode cX8_next 9 = .ok (.ifCond .ne 9, 3) := by decide +kernel
theorem dX8_next_12 : decode cX8_next 12 = .ok (.aload_n 0, 1) := by decide +kernel
theorem dX8_next_13 : decode cX8_next 13 = .ok (.iconst 1, 1) := by decide +kernel
theorem dX8_next_14 : decode cX8_next 14 = .ok (.invokevirtual 57, 3) := by decide +kernel
theorem dX8_next_17 : decode cX8_next 17 = .ok (.ireturn, 1) := by decide +kernel
theorem dX8_next_18 : decode cX8_next 18 = .ok (.aload_n 0, 1) := by decide +kernel
theorem dX8_next_19 : decode cX8_next 19 = .ok (.invokevirtual 90, 3) := by decide +kernel
theorem dX8_next_22 : decode cX8_next 22 = .ok (.iconst 0, 1) := by decide +kernel
theorem dX8_next_23 : decode cX8_next 23 = .ok (.istore_n 3, 1) := by decide +kernel
theorem dX8_next_24 : decode cX8_next 24 = .ok (.iload_n 3, 1) := by decide +kernel
theorem dX8_next_25 : decode cX8_next 25 = .ok (.aload_n 0, 1) := by decide +kernel
theorem dX8_next_26 : decode cX8_next 26 = .ok (.getfield 84, 3) := by decide +kernel
theorem dX8_next_29 : decode cX8_next 29 = .ok (.if_icmp .ge 30, 3) := by decide +kernel
theorem dX8_next_32 : decode cX8_next 32 = .ok (.aload_n 0, 1) := by decide +kernel
theorem dX8_next_33 : decode cX8_next 33 = .ok (.getfield 32, 3) := by decide +kernel
theorem dX8_next_36 : decode cX8_next 36 = .ok (.iload_n 3, 1) := by decide +kernel
theorem dX8_next_37 : decode cX8_next 37 = .ok (.iaload, 1) := by decide +kernel
theorem dX8_next_38 : decode cX8_next 38 = .ok (.iload_n 1, 1) := by decide +kernel
theorem dX8_next_39 : decode cX8_next 39 = .ok (.if_icmp .lt 14, 3) := by decide +kernel
theorem dX8_next_42 : decode cX8_next 42 = .ok (.aload_n 0, 1) := by decide +kernel
theorem dX8_next_43 : decode cX8_next 43 = .ok (.iload_n 3, 1) := by decide +kernel
theorem dX8_next_44 : decode cX8_next 44 = .ok (.invokevirtual 101, 3) := by decide +kernel
theorem dX8_next_47 : decode cX8_next 47 = .ok (.iload_n 2, 1) := by decide +kernel
theorem dX8_next_48 : decode cX8_next 48 = .ok (.if_icmp .ne 5, 3) := by decide +kernel
theorem dX8_next_51 : decode cX8_next 51 = .ok (.iload_n 3, 1) := by decide +kernel
theorem dX8_next_52 : decode cX8_next 52 = .ok (.ireturn, 1) := by decide +kernel
theorem dX8_next_53 : decode cX8_next 53 = .ok (.iinc 3 1, 3) := by decide +kernel
theorem dX8_next_56 : decode cX8_next 56 = .ok (.goto (-32), 3) := by decide +kernel
theorem dX8_next_59 : decode cX8_next 59 = .ok (.iconst (-1), 1) := by decide +kernel
theorem dX8_next_60 : decode cX8_next 60 = .ok (.ireturn, 1) := by decide +kernel
theorem dX8_extreme_0 : decode cX8_extreme 0 = .ok (.iload_n 1, 1) := by decide +kernel
theorem dX8_extreme_1 : decode cX8_extreme 1 = .ok (.i2l, 1) := by decide +kernel
theorem dX8_extreme_2 : decode cX8_extreme 2 = .ok (.aload_n 0, 1) := by decide +kernel
theorem dX8_extreme_3 : decode cX8_extreme 3 = .ok (.getfield 28, 3) := by decide +kernel
theorem dX8_extreme_6 : decode cX8_extreme 6 = .ok (.iconst 0, 1) := by decide +kernel
theorem dX8_extreme_7 : decode cX8_extreme 7 = .ok (.laload, 1) := by decide +kernel
theorem dX8_extreme_8 : decode cX8_extreme 8 = .ok (.lmul, 1) := by decide +kernel
theorem dX8_extreme_9 : decode cX8_extreme 9 = .ok (.lstore_n 2, 1) := by decide +kernel
theorem dX8_extreme_10 : decode cX8_extreme 10 = .ok (.iconst 1, 1) := by decide +kernel
theorem dX8_extreme_11 : decode cX8_extreme 11 = .ok (.istore 4, 2) := by decide +kernel
theorem dX8_extreme_13 : decode cX8_extreme 13 = .ok (.iload 4, 2) := by decide +kernel
theorem dX8_extreme_15 : decode cX8_extreme 15 = .ok (.sipush 4320, 3) := by decide +kernel
theorem dX8_extreme_18 : decode cX8_extreme 18 = .ok (.if_icmp .ge 24, 3) := by decide +kernel
theorem dX8_extreme_21 : decode cX8_extreme 21 = .ok (.lload_n 2, 1) := by decide +kernel
theorem dX8_extreme_22 : decode cX8_extreme 22 = .ok (.iload_n 1, 1) := by decide +kernel
theorem dX8_extreme_23 : decode cX8_extreme 23 = .ok (.i2l, 1) := by decide +kernel
theorem dX8_extreme_24 : decode cX8_extreme 24 = .ok (.aload_n 0, 1) := by decide +kernel
theorem dX8_extreme_25 : decode cX8_extreme 25 = .ok (.getfield 28, 3) := by decide +kernel
theorem dX8_extreme_28 : decode cX8_extreme 28 = .ok (.iload 4, 2) := by decide +kernel
theorem dX8_extreme_30 : decode cX8_extreme 30 = .ok (.laload, 1) := by decide +kernel
theorem dX8_extreme_31 : decode cX8_extreme 31 = .ok (.lmul, 1) := by decide +kernel
theorem dX8_extreme_32 : decode cX8_extreme 32 = .ok (.invokestatic 108, 3) := by decide +kernel
theorem dX8_extreme_35 : decode cX8_extreme 35 = .ok (.lstore_n 2, 1) := by decide +kernel
theorem dX8_extreme_36 : decode cX8_extreme 36 = .ok (.iinc 4 1, 3) := by decide +kernel
theorem dX8_extreme_39 : decode cX8_extreme 39 = .ok (.goto (-26), 3) := by decide +kernel
theorem dX8_extreme_42 : decode cX8_extreme 42 = .ok (.iload_n 1, 1) := by decide +kernel
theorem dX8_extreme_43 : decode cX8_extreme 43 = .ok (.i2l, 1) := by decide +kernel
theorem dX8_extreme_44 : decode cX8_extreme 44 = .ok (.lload_n 2, 1) := by decide +kernel
theorem dX8_extreme_45 : decode cX8_extreme 45 = .ok (.lmul, 1) := by decide +kernel
theorem dX8_extreme_46 : decode cX8_extreme 46 = .ok (.lreturn, 1) := by decide +kernel
theorem dX8_mean_0 : decode cX8_mean 0 = .ok (.lconst 0, 1) := by decide +kernel
theorem dX8_mean_1 : decode cX8_mean 1 = .ok (.lstore_n 2, 1) := by decide +kernel
theorem dX8_mean_2 : decode cX8_mean 2 = .ok (.iconst 0, 1) := by decide +kernel
theorem dX8_mean_3 : decode cX8_mean 3 = .ok (.istore 4, 2) := by decide +kernel
theorem dX8_mean_5 : decode cX8_mean 5 = .ok (.iconst 0, 1) := by decide +kernel
theorem dX8_mean_6 : decode cX8_mean 6 = .ok (.istore 5, 2) := by decide +kernel
theorem dX8_mean_8 : decode cX8_mean 8 = .ok (.iload 5, 2) := by decide +kernel
theorem dX8_mean_10 : decode cX8_mean 10 = .ok (.aload_n 0, 1) := by decide +kernel
theorem dX8_mean_11 : decode cX8_mean 11 = .ok (.getfield 84, 3) := by decide +kernel
theorem dX8_mean_14 : decode cX8_mean 14 = .ok (.if_icmp .ge 40, 3) := by decide +kernel
theorem dX8_mean_17 : decode cX8_mean 17 = .ok (.aload_n 0, 1) := by decide +kernel
theorem dX8_mean_18 : decode cX8_mean 18 = .ok (.iload 5, 2) := by decide +kernel
theorem dX8_mean_20 : decode cX8_mean 20 = .ok (.invokevirtual 101, 3) := by decide +kernel
theorem dX8_mean_23 : decode cX8_mean 23 = .ok (.iload_n 1, 1) := by decide +kernel
theorem dX8_mean_24 : decode cX8_mean 24 = .ok (.if_icmp .eq 6, 3) := by decide +kernel
theorem dX8_mean_27 : decode cX8_mean 27 = .ok (.goto 21, 3) := by decide +kernel
theorem dX8_mean_30 : decode cX8_mean 30 = .ok (.lload_n 2, 1) := by decide +kernel
theorem dX8_mean_31 : decode cX8_mean 31 = .ok (.aload_n 0, 1) := by decide +kernel
theorem dX8_mean_32 : decode cX8_mean 32 = .ok (.getfield 28, 3) := by decide +kernel
theorem dX8_mean_35 : decode cX8_mean 35 = .ok (.aload_n 0, 1) := by decide +kernel
theorem dX8_mean_36 : decode cX8_mean 36 = .ok (.getfield 32, 3) := by decide +kernel
theorem dX8_mean_39 : decode cX8_mean 39 = .ok (.iload 5, 2) := by decide +kernel
theorem dX8_mean_41 : decode cX8_mean 41 = .ok (.iaload, 1) := by decide +kernel
theorem dX8_mean_42 : decode cX8_mean 42 = .ok (.laload, 1) := by decide +kernel
theorem dX8_mean_43 : decode cX8_mean 43 = .ok (.ladd, 1) := by decide +kernel
theorem dX8_mean_44 : decode cX8_mean 44 = .ok (.lstore_n 2, 1) := by decide +kernel
theorem dX8_mean_45 : decode cX8_mean 45 = .ok (.iinc 4 1, 3) := by decide +kernel
theorem dX8_mean_48 : decode cX8_mean 48 = .ok (.iinc 5 1, 3) := by decide +kernel
theorem dX8_mean_51 : decode cX8_mean 51 = .ok (.goto (-43), 3) := by decide +kernel
theorem dX8_mean_54 : decode cX8_mean 54 = .ok (.iload 4, 2) := by decide +kernel
theorem dX8_mean_56 : decode cX8_mean 56 = .ok (.ifCond .ne 7, 3) := by decide +kernel
theorem dX8_mean_59 : decode cX8_mean 59 = .ok (.lconst 0, 1) := by decide +kernel
theorem dX8_mean_60 : decode cX8_mean 60 = .ok (.goto 8, 3) := by decide +kernel
theorem dX8_mean_63 : decode cX8_mean 63 = .ok (.lload_n 2, 1) := by decide +kernel
theorem dX8_mean_64 : decode cX8_mean 64 = .ok (.iload 4, 2) := by decide +kernel
theorem dX8_mean_66 : decode cX8_mean 66 = .ok (.i2l, 1) := by decide +kernel
theorem dX8_mean_67 : decode cX8_mean 67 = .ok (.ldiv, 1) := by decide +kernel
theorem dX8_mean_68 : decode cX8_mean 68 = .ok (.lreturn, 1) := by decide +kernel
theorem dX8_greatestRange_0 : decode cX8_greatestRange 0 = .ok (.lconst 0, 1) := by decide +kernel
theorem dX8_greatestRange_1 : decode cX8_greatestRange 1 = .ok (.lstore_n 1, 1) := by decide +kernel
theorem dX8_greatestRange_2 : decode cX8_greatestRange 2 = .ok (.iconst 1, 1) := by decide +kernel
theorem dX8_greatestRange_3 : decode cX8_greatestRange 3 = .ok (.istore_n 3, 1) := by decide +kernel
theorem dX8_greatestRange_4 : decode cX8_greatestRange 4 = .ok (.iload_n 3, 1) := by decide +kernel
theorem dX8_greatestRange_5 : decode cX8_greatestRange 5 = .ok (.aload_n 0, 1) := by decide +kernel
theorem dX8_greatestRange_6 : decode cX8_greatestRange 6 = .ok (.getfield 84, 3) := by decide +kernel
theorem dX8_greatestRange_9 : decode cX8_greatestRange 9 = .ok (.if_icmp .ge 42, 3) := by decide +kernel
theorem dX8_greatestRange_12 : decode cX8_greatestRange 12 = .ok (.lload_n 1, 1) := by decide +kernel
theorem dX8_greatestRange_13 : decode cX8_greatestRange 13 = .ok (.aload_n 0, 1) := by decide +kernel
theorem dX8_greatestRange_14 : decode cX8_greatestRange 14 = .ok (.getfield 28, 3) := by decide +kernel
theorem dX8_greatestRange_17 : decode cX8_greatestRange 17 = .ok (.aload_n 0, 1) := by decide +kernel
theorem dX8_greatestRange_18 : decode cX8_greatestRange 18 = .ok (.getfield 32, 3) := by decide +kernel
theorem dX8_greatestRange_21 : decode cX8_greatestRange 21 = .ok (.iload_n 3, 1) := by decide +kernel
theorem dX8_greatestRange_22 : decode cX8_greatestRange 22 = .ok (.iaload, 1) := by decide +kernel
theorem dX8_greatestRange_23 : decode cX8_greatestRange 23 = .ok (.laload, 1) := by decide +kernel
theorem dX8_greatestRange_24 : decode cX8_greatestRange 24 = .ok (.aload_n 0, 1) := by decide +kernel
theorem dX8_greatestRange_25 : decode cX8_greatestRange 25 = .ok (.getfield 28, 3) := by decide +kernel
theorem dX8_greatestRange_28 : decode cX8_greatestRange 28 = .ok (.aload_n 0, 1) := by decide +kernel
theorem dX8_greatestRange_29 : decode cX8_greatestRange 29 = .ok (.getfield 32, 3) := by decide +kernel
theorem dX8_greatestRange_32 : decode cX8_greatestRange 32 = .ok (.iload_n 3, 1) := by decide +kernel
theorem dX8_greatestRange_33 : decode cX8_greatestRange 33 = .ok (.iconst 1, 1) := by decide +kernel
theorem dX8_greatestRange_34 : decode cX8_greatestRange 34 = .ok (.isub, 1) := by decide +kernel
theorem dX8_greatestRange_35 : decode cX8_greatestRange 35 = .ok (.iaload, 1) := by decide +kernel
theorem dX8_greatestRange_36 : decode cX8_greatestRange 36 = .ok (.laload, 1) := by decide +kernel
theorem dX8_greatestRange_37 : decode cX8_greatestRange 37 = .ok (.lsub, 1) := by decide +kernel
theorem dX8_greatestRange_38 : decode cX8_greatestRange 38 = .ok (.invokestatic 114, 3) := by decide +kernel
theorem dX8_greatestRange_41 : decode cX8_greatestRange 41 = .ok (.invokestatic 108, 3) := by decide +kernel
theorem dX8_greatestRange_44 : decode cX8_greatestRange 44 = .ok (.lstore_n 1, 1) := by decide +kernel
theorem dX8_greatestRange_45 : decode cX8_greatestRange 45 = .ok (.iinc 3 1, 3) := by decide +kernel
theorem dX8_greatestRange_48 : decode cX8_greatestRange 48 = .ok (.goto (-44), 3) := by decide +kernel
theorem dX8_greatestRange_51 : decode cX8_greatestRange 51 = .ok (.lload_n 1, 1) := by decide +kernel
theorem dX8_greatestRange_52 : decode cX8_greatestRange 52 = .ok (.lreturn, 1) := by decide +kernel
theorem dX8_datumOf_0 : decode cX8_datumOf 0 = .ok (.aload_n 0, 1) := by decide +kernel
theorem dX8_datumOf_1 : decode cX8_datumOf 1 = .ok (.invokevirtual 90, 3) := by decide +kernel
theorem dX8_datumOf_4 : decode cX8_datumOf 4 = .ok (.iload_n 1, 1) := by decide +kernel
theorem dX8_datumOf_5 : decode cX8_datumOf 5 = .ok (.tableswitch 59 0 3 #[31, 38, 45, 52], 31) := by decide +kernel
theorem dX8_datumOf_36 : decode cX8_datumOf 36 = .ok (.aload_n 0, 1) := by decide +kernel
theorem dX8_datumOf_37 : decode cX8_datumOf 37 = .ok (.iconst 1, 1) := by decide +kernel
theorem dX8_datumOf_38 : decode cX8_datumOf 38 = .ok (.invokevirtual 118, 3) := by decide +kernel
theorem dX8_datumOf_41 : decode cX8_datumOf 41 = .ok (.l2i, 1) := by decide +kernel
theorem dX8_datumOf_42 : decode cX8_datumOf 42 = .ok (.ireturn, 1) := by decide +kernel
theorem dX8_datumOf_43 : decode cX8_datumOf 43 = .ok (.aload_n 0, 1) := by decide +kernel
theorem dX8_datumOf_44 : decode cX8_datumOf 44 = .ok (.iconst (-1), 1) := by decide +kernel
theorem dX8_datumOf_45 : decode cX8_datumOf 45 = .ok (.invokevirtual 118, 3) := by decide +kernel
theorem dX8_datumOf_48 : decode cX8_datumOf 48 = .ok (.l2i, 1) := by decide +kernel
theorem dX8_datumOf_49 : decode cX8_datumOf 49 = .ok (.ireturn, 1) := by decide +kernel
theorem dX8_datumOf_50 : decode cX8_datumOf 50 = .ok (.aload_n 0, 1) := by decide +kernel
theorem dX8_datumOf_51 : decode cX8_datumOf 51 = .ok (.iconst 1, 1) := by decide +kernel
theorem dX8_datumOf_52 : decode cX8_datumOf 52 = .ok (.invokevirtual 122, 3) := by decide +kernel
theorem dX8_datumOf_55 : decode cX8_datumOf 55 = .ok (.l2i, 1) := by decide +kernel
theorem dX8_datumOf_56 : decode cX8_datumOf 56 = .ok (.ireturn, 1) := by decide +kernel
theorem dX8_datumOf_57 : decode cX8_datumOf 57 = .ok (.aload_n 0, 1) := by decide +kernel
theorem dX8_datumOf_58 : decode cX8_datumOf 58 = .ok (.iconst 0, 1) := by decide +kernel
theorem dX8_datumOf_59 : decode cX8_datumOf 59 = .ok (.invokevirtual 122, 3) := by decide +kernel
theorem dX8_datumOf_62 : decode cX8_datumOf 62 = .ok (.l2i, 1) := by decide +kernel
theorem dX8_datumOf_63 : decode cX8_datumOf 63 = .ok (.ireturn, 1) := by decide +kernel
theorem dX8_datumOf_64 : decode cX8_datumOf 64 = .ok (.aload_n 0, 1) := by decide +kernel
theorem dX8_datumOf_65 : decode cX8_datumOf 65 = .ok (.invokevirtual 126, 3) := by decide +kernel
theorem dX8_datumOf_68 : decode cX8_datumOf 68 = .ok (.l2i, 1) := by decide +kernel
theorem dX8_datumOf_69 : decode cX8_datumOf 69 = .ok (.ireturn, 1) := by decide +kernel
theorem dX8_datum_0 : decode cX8_datum 0 = .ok (.aload_n 0, 1) := by decide +kernel
theorem dX8_datum_1 : decode cX8_datum 1 = .ok (.iconst 0, 1) := by decide +kernel
theorem dX8_datum_2 : decode cX8_datum 2 = .ok (.putfield 35, 3) := by decide +kernel
theorem dX8_datum_5 : decode cX8_datum 5 = .ok (.iload_n 1, 1) := by decide +kernel
theorem dX8_datum_6 : decode cX8_datum 6 = .ok (.i2l, 1) := by decide +kernel
theorem dX8_datum_7 : decode cX8_datum 7 = .ok (.lconst 0, 1) := by decide +kernel
theorem dX8_datum_8 : decode cX8_datum 8 = .ok (.ldc2_w 78, 3) := by decide +kernel
theorem dX8_datum_11 : decode cX8_datum 11 = .ok (.invokestatic 41, 3) := by decide +kernel
theorem dX8_datum_14 : decode cX8_datum 14 = .ok (.ifCond .eq 11, 3) := by decide +kernel
theorem dX8_datum_17 : decode cX8_datum 17 = .ok (.aload_n 0, 1) := by decide +kernel
theorem dX8_datum_18 : decode cX8_datum 18 = .ok (.iload_n 1, 1) := by decide +kernel
theorem dX8_datum_19 : decode cX8_datum 19 = .ok (.invokevirtual 130, 3) := by decide +kernel
theorem dX8_datum_22 : decode cX8_datum 22 = .ok (.goto 8, 3) := by decide +kernel
theorem dX8_datum_25 : decode cX8_datum 25 = .ok (.aload_n 0, 1) := by decide +kernel
theorem dX8_datum_26 : decode cX8_datum 26 = .ok (.iconst 1, 1) := by decide +kernel
theorem dX8_datum_27 : decode cX8_datum 27 = .ok (.invokevirtual 57, 3) := by decide +kernel
