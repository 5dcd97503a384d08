/-! decode rows -/
theorem dX4_build_25 : decode cX4_build 25 = .ok (.iload 4, 2) := by decide +kernel
theorem dX4_build_27 : decode cX4_build 27 = .ok (.aload_n 0, 1) := by decide +kernel
theorem dX4_build_28 : decode cX4_build 28 = .ok (.getfield 59, 3) := by decide +kernel
theorem dX4_build_31 : decode cX4_build 31 = .ok (.if_icmp .ge 77, 3) := by decide +kernel
theorem dX4_build_34 : decode cX4_build 34 = .ok (.iload 4, 2) := by decide +kernel
theorem dX4_build_36 : decode cX4_build 36 = .ok (.iload_n 2, 1) := by decide +kernel
theorem dX4_build_37 : decode cX4_build 37 = .ok (.bipush 8, 2) := by decide +kernel
theorem dX4_build_39 : decode cX4_build 39 = .ok (.iadd, 1) := by decide +kernel
theorem dX4_build_40 : decode cX4_build 40 = .ok (.if_icmp .ge 68, 3) := by decide +kernel
theorem dX4_build_43 : decode cX4_build 43 = .ok (.aload_n 0, 1) := by decide +kernel
theorem dX4_build_44 : decode cX4_build 44 = .ok (.iload 4, 2) := by decide +kernel
theorem dX4_build_46 : decode cX4_build 46 = .ok (.iload_n 2, 1) := by decide +kernel
theorem dX4_build_47 : decode cX4_build 47 = .ok (.if_icmp .ne 17, 3) := by decide +kernel
theorem dX4_build_50 : decode cX4_build 50 = .ok (.aload_n 0, 1) := by decide +kernel
theorem dX4_build_51 : decode cX4_build 51 = .ok (.getfield 9, 3) := by decide +kernel
theorem dX4_build_54 : decode cX4_build 54 = .ok (.iload 4, 2) := by decide +kernel
theorem dX4_build_56 : decode cX4_build 56 = .ok (.iaload, 1) := by decide +kernel
theorem dX4_build_57 : decode cX4_build 57 = .ok (.i2l, 1) := by decide +kernel
theorem dX4_build_58 : decode cX4_build 58 = .ok (.invokestatic 62, 3) := by decide +kernel
theorem dX4_build_61 : decode cX4_build 61 = .ok (.goto 24, 3) := by decide +kernel
theorem dX4_build_64 : decode cX4_build 64 = .ok (.aload_n 0, 1) := by decide +kernel
theorem dX4_build_65 : decode cX4_build 65 = .ok (.getfield 9, 3) := by decide +kernel
theorem dX4_build_68 : decode cX4_build 68 = .ok (.iload 4, 2) := by decide +kernel
theorem dX4_build_70 : decode cX4_build 70 = .ok (.iaload, 1) := by decide +kernel
theorem dX4_build_71 : decode cX4_build 71 = .ok (.i2l, 1) := by decide +kernel
theorem dX4_build_72 : decode cX4_build 72 = .ok (.aload_n 0, 1) := by decide +kernel
theorem dX4_build_73 : decode cX4_build 73 = .ok (.getfield 9, 3) := by decide +kernel
theorem dX4_build_76 : decode cX4_build 76 = .ok (.iload 4, 2) := by decide +kernel
theorem dX4_build_78 : decode cX4_build 78 = .ok (.iconst 1, 1) := by decide +kernel
theorem dX4_build_79 : decode cX4_build 79 = .ok (.isub, 1) := by decide +kernel
theorem dX4_build_80 : decode cX4_build 80 = .ok (.iaload, 1) := by decide +kernel
theorem dX4_build_81 : decode cX4_build 81 = .ok (.i2l, 1) := by decide +kernel
theorem dX4_build_82 : decode cX4_build 82 = .ok (.lsub, 1) := by decide +kernel
theorem dX4_build_83 : decode cX4_build 83 = .ok (.lconst 1, 1) := by decide +kernel
theorem dX4_build_84 : decode cX4_build 84 = .ok (.lsub, 1) := by decide +kernel
theorem dX4_build_85 : decode cX4_build 85 = .ok (.invokevirtual 66, 3) := by decide +kernel
theorem dX4_build_88 : decode cX4_build 88 = .ok (.aload_n 0, 1) := by decide +kernel
theorem dX4_build_89 : decode cX4_build 89 = .ok (.aload_n 0, 1) := by decide +kernel
theorem dX4_build_90 : decode cX4_build 90 = .ok (.getfield 13, 3) := by decide +kernel
theorem dX4_build_93 : decode cX4_build 93 = .ok (.iload 4, 2) := by decide +kernel
theorem dX4_build_95 : decode cX4_build 95 = .ok (.laload, 1) := by decide +kernel
theorem dX4_build_96 : decode cX4_build 96 = .ok (.invokestatic 62, 3) := by decide +kernel
theorem dX4_build_99 : decode cX4_build 99 = .ok (.invokevirtual 66, 3) := by decide +kernel
theorem dX4_build_102 : decode cX4_build 102 = .ok (.iinc 4 1, 3) := by decide +kernel
theorem dX4_build_105 : decode cX4_build 105 = .ok (.goto (-80), 3) := by decide +kernel
theorem dX4_build_108 : decode cX4_build 108 = .ok (.aload_n 0, 1) := by decide +kernel
theorem dX4_build_109 : decode cX4_build 109 = .ok (.iload_n 3, 1) := by decide +kernel
theorem dX4_build_110 : decode cX4_build 110 = .ok (.invokevirtual 70, 3) := by decide +kernel
theorem dX4_build_113 : decode cX4_build 113 = .ok (.aload_n 0, 1) := by decide +kernel
theorem dX4_build_114 : decode cX4_build 114 = .ok (.getfield 24, 3) := by decide +kernel
theorem dX4_build_117 : decode cX4_build 117 = .ok (.iload_n 1, 1) := by decide +kernel
theorem dX4_build_118 : decode cX4_build 118 = .ok (.aload_n 0, 1) := by decide +kernel
theorem dX4_build_119 : decode cX4_build 119 = .ok (.getfield 45, 3) := by decide +kernel
theorem dX4_build_122 : decode cX4_build 122 = .ok (.iload_n 3, 1) := by decide +kernel
theorem dX4_build_123 : decode cX4_build 123 = .ok (.isub, 1) := by decide +kernel
theorem dX4_build_124 : decode cX4_build 124 = .ok (.iastore, 1) := by decide +kernel
theorem dX4_build_125 : decode cX4_build 125 = .ok (.aload_n 0, 1) := by decide +kernel
theorem dX4_build_126 : decode cX4_build 126 = .ok (.getfield 27, 3) := by decide +kernel
theorem dX4_build_129 : decode cX4_build 129 = .ok (.iload_n 1, 1) := by decide +kernel
theorem dX4_build_130 : decode cX4_build 130 = .ok (.aload_n 0, 1) := by decide +kernel
theorem dX4_build_131 : decode cX4_build 131 = .ok (.getfield 9, 3) := by decide +kernel
theorem dX4_build_134 : decode cX4_build 134 = .ok (.iload_n 2, 1) := by decide +kernel
theorem dX4_build_135 : decode cX4_build 135 = .ok (.iaload, 1) := by decide +kernel
theorem dX4_build_136 : decode cX4_build 136 = .ok (.iastore, 1) := by decide +kernel
theorem dX4_build_137 : decode cX4_build 137 = .ok (.iinc 1 1, 3) := by decide +kernel
theorem dX4_build_140 : decode cX4_build 140 = .ok (.iinc 2 8, 3) := by decide +kernel
theorem dX4_build_143 : decode cX4_build 143 = .ok (.goto (-134), 3) := by decide +kernel
theorem dX4_build_146 : decode cX4_build 146 = .ok (.aload_n 0, 1) := by decide +kernel
theorem dX4_build_147 : decode cX4_build 147 = .ok (.getfield 45, 3) := by decide +kernel
theorem dX4_build_150 : decode cX4_build 150 = .ok (.istore_n 2, 1) := by decide +kernel
theorem dX4_build_151 : decode cX4_build 151 = .ok (.aload_n 0, 1) := by decide +kernel
theorem dX4_build_152 : decode cX4_build 152 = .ok (.iload_n 1, 1) := by decide +kernel
theorem dX4_build_153 : decode cX4_build 153 = .ok (.i2l, 1) := by decide +kernel
theorem dX4_build_154 : decode cX4_build 154 = .ok (.invokevirtual 66, 3) := by decide +kernel
theorem dX4_build_157 : decode cX4_build 157 = .ok (.iconst 0, 1) := by decide +kernel
theorem dX4_build_158 : decode cX4_build 158 = .ok (.istore_n 3, 1) := by decide +kernel
theorem dX4_build_159 : decode cX4_build 159 = .ok (.iload_n 3, 1) := by decide +kernel
theorem dX4_build_160 : decode cX4_build 160 = .ok (.iload_n 1, 1) := by decide +kernel
theorem dX4_build_161 : decode cX4_build 161 = .ok (.if_icmp .ge 34, 3) := by decide +kernel
theorem dX4_build_164 : decode cX4_build 164 = .ok (.aload_n 0, 1) := by decide +kernel
theorem dX4_build_165 : decode cX4_build 165 = .ok (.aload_n 0, 1) := by decide +kernel
theorem dX4_build_166 : decode cX4_build 166 = .ok (.getfield 24, 3) := by decide +kernel
theorem dX4_build_169 : decode cX4_build 169 = .ok (.iload_n 3, 1) := by decide +kernel
theorem dX4_build_170 : decode cX4_build 170 = .ok (.iaload, 1) := by decide +kernel
theorem dX4_build_171 : decode cX4_build 171 = .ok (.i2l, 1) := by decide +kernel
theorem dX4_build_172 : decode cX4_build 172 = .ok (.invokevirtual 66, 3) := by decide +kernel
theorem dX4_build_175 : decode cX4_build 175 = .ok (.aload_n 0, 1) := by decide +kernel
theorem dX4_build_176 : decode cX4_build 176 = .ok (.aload_n 0, 1) := by decide +kernel
theorem dX4_build_177 : decode cX4_build 177 = .ok (.getfield 27, 3) := by decide +kernel
theorem dX4_build_180 : decode cX4_build 180 = .ok (.iload_n 3, 1) := by decide +kernel
theorem dX4_build_181 : decode cX4_build 181 = .ok (.iaload, 1) := by decide +kernel
theorem dX4_build_182 : decode cX4_build 182 = .ok (.i2l, 1) := by decide +kernel
theorem dX4_build_183 : decode cX4_build 183 = .ok (.invokestatic 62, 3) := by decide +kernel
theorem dX4_build_186 : decode cX4_build 186 = .ok (.invokevirtual 66, 3) := by decide +kernel
theorem dX4_build_189 : decode cX4_build 189 = .ok (.iinc 3 1, 3) := by decide +kernel
theorem dX4_build_192 : decode cX4_build 192 = .ok (.goto (-33), 3) := by decide +kernel
theorem dX4_build_195 : decode cX4_build 195 = .ok (.aload_n 0, 1) := by decide +kernel
theorem dX4_build_196 : decode cX4_build 196 = .ok (.getfield 45, 3) := by decide +kernel
theorem dX4_build_199 : decode cX4_build 199 = .ok (.iload_n 2, 1) := by decide +kernel
theorem dX4_build_200 : decode cX4_build 200 = .ok (.isub, 1) := by decide +kernel
theorem dX4_build_201 : decode cX4_build 201 = .ok (.istore_n 3, 1) := by decide +kernel
theorem dX4_build_202 : decode cX4_build 202 = .ok (.aload_n 0, 1) := by decide +kernel
theorem dX4_build_203 : decode cX4_build 203 = .ok (.iload_n 2, 1) := by decide +kernel
theorem dX4_build_204 : decode cX4_build 204 = .ok (.invokevirtual 70, 3) := by decide +kernel
theorem dX4_build_207 : decode cX4_build 207 = .ok (.bipush 24, 2) := by decide +kernel
theorem dX4_build_209 : decode cX4_build 209 = .ok (.istore 4, 2) := by decide +kernel
theorem dX4_build_211 : decode cX4_build 211 = .ok (.iload 4, 2) := by decide +kernel
theorem dX4_build_213 : decode cX4_build 213 = .ok (.ifCond .lt 30, 3) := by decide +kernel
theorem dX4_build_216 : decode cX4_build 216 = .ok (.aload_n 0, 1) := by decide +kernel
theorem dX4_build_217 : decode cX4_build 217 = .ok (.getfield 17, 3) := by decide +kernel
theorem dX4_build_220 : decode cX4_build 220 = .ok (.aload_n 0, 1) := by decide +kernel
theorem dX4_build_221 : decode cX4_build 221 = .ok (.dup, 1) := by decide +kernel
theorem dX4_build_222 : decode cX4_build 222 = .ok (.getfield 45, 3) := by decide +kernel
theorem dX4_build_225 : decode cX4_build 225 = .ok (.dup_x1, 1) := by decide +kernel
theorem dX4_build_226 : decode cX4_build 226 = .ok (.iconst 1, 1) := by decide +kernel
theorem dX4_build_227 : decode cX4_build 227 = .ok (.iadd, 1) := by decide +kernel
theorem dX4_build_228 : decode cX4_build 228 = .ok (.putfield 45, 3) := by decide +kernel
theorem dX4_build_231 : decode cX4_build 231 = .ok (.iload_n 3, 1) := by decide +kernel
theorem dX4_build_232 : decode cX4_build 232 = .ok (.iload 4, 2) := by decide +kernel
theorem dX4_build_234 : decode cX4_build 234 = .ok (.ishr, 1) := by decide +kernel
theorem dX4_build_235 : decode cX4_build 235 = .ok (.i2b, 1) := by decide +kernel
theorem dX4_build_236 : decode cX4_build 236 = .ok (.bastore, 1) := by decide +kernel
theorem dX4_build_237 : decode cX4_build 237 = .ok (.iinc 4 (-8), 3) := by decide +kernel
theorem dX4_build_240 : decode cX4_build 240 = .ok (.goto (-29), 3) := by decide +kernel
theorem dX4_build_243 : decode cX4_build 243 = .ok (.aload_n 0, 1) := by decide +kernel
theorem dX4_build_244 : decode cX4_build 244 = .ok (.iconst 0, 1) := by decide +kernel
theorem dX4_build_245 : decode cX4_build 245 = .ok (.putfield 59, 3) := by decide +kernel
theorem dX4_build_248 : decode cX4_build 248 = .ok (.aload_n 0, 1) := by decide +kernel
theorem dX4_build_249 : decode cX4_build 249 = .ok (.iconst 0, 1) := by decide +kernel
theorem dX4_build_250 : decode cX4_build 250 = .ok (.putfield 74, 3) := by decide +kernel
theorem dX4_build_253 : decode cX4_build 253 = .ok (.return_, 1) := by decide +kernel
theorem dX4_read_0 : decode cX4_read 0 = .ok (.lconst 0, 1) := by decide +kernel
theorem dX4_read_1 : decode cX4_read 1 = .ok (.lstore_n 1, 1) := by decide +kernel
theorem dX4_read_2 : decode cX4_read 2 = .ok (.iconst 0, 1) := by decide +kernel
theorem dX4_read_3 : decode cX4_read 3 = .ok (.istore_n 3, 1) := by decide +kernel
theorem dX4_read_4 : decode cX4_read 4 = .ok (.aload_n 0, 1) := by decide +kernel
theorem dX4_read_5 : decode cX4_read 5 = .ok (.getfield 78, 3) := by decide +kernel
theorem dX4_read_8 : decode cX4_read 8 = .ok (.aload_n 0, 1) := by decide +kernel
theorem dX4_read_9 : decode cX4_read 9 = .ok (.getfield 81, 3) := by decide +kernel
theorem dX4_read_12 : decode cX4_read 12 = .ok (.if_icmp .ne 10, 3) := by decide +kernel
theorem dX4_read_15 : decode cX4_read 15 = .ok (.aload_n 0, 1) := by decide +kernel
theorem dX4_read_16 : decode cX4_read 16 = .ok (.iconst 1, 1) := by decide +kernel
theorem dX4_read_17 : decode cX4_read 17 = .ok (.putfield 84, 3) := by decide +kernel
theorem dX4_read_20 : decode cX4_read 20 = .ok (.lconst 0, 1) := by decide +kernel
theorem dX4_read_21 : decode cX4_read 21 = .ok (.lreturn, 1) := by decide +kernel
theorem dX4_read_22 : decode cX4_read 22 = .ok (.aload_n 0, 1) := by decide +kernel
theorem dX4_read_23 : decode cX4_read 23 = .ok (.getfield 17, 3) := by decide +kernel
theorem dX4_read_26 : decode cX4_read 26 = .ok (.aload_n 0, 1) := by decide +kernel
theorem dX4_read_27 : decode cX4_read 27 = .ok (.getfield 78, 3) := by decide +kernel
theorem dX4_read_30 : decode cX4_read 30 = .ok (.baload, 1) := by decide +kernel
theorem dX4_read_31 : decode cX4_read 31 = .ok (.bipush 127, 2) := by decide +kernel
theorem dX4_read_33 : decode cX4_read 33 = .ok (.iand, 1) := by decide +kernel
theorem dX4_read_34 : decode cX4_read 34 = .ok (.i2l, 1) := by decide +kernel
theorem dX4_read_35 : decode cX4_read 35 = .ok (.lstore 4, 2) := by decide +kernel
theorem dX4_read_37 : decode cX4_read 37 = .ok (.iload_n 3, 1) := by decide +kernel
theorem dX4_read_38 : decode cX4_read 38 = .ok (.bipush 63, 2) := by decide +kernel
theorem dX4_read_40 : decode cX4_read 40 = .ok (.if_icmp .gt 16, 3) := by decide +kernel
theorem dX4_read_43 : decode cX4_read 43 = .ok (.iload_n 3, 1) := by decide +kernel
theorem dX4_read_44 : decode cX4_read 44 = .ok (.bipush 63, 2) := by decide +kernel
theorem dX4_read_46 : decode cX4_read 46 = .ok (.if_icmp .ne 15, 3) := by decide +kernel
theorem dX4_read_49 : decode cX4_read 49 = .ok (.lload 4, 2) := by decide +kernel
theorem dX4_read_51 : decode cX4_read 51 = .ok (.lconst 1, 1) := by decide +kernel
theorem dX4_read_52 : decode cX4_read 52 = .ok (.lcmp, 1) := by decide +kernel
theorem dX4_read_53 : decode cX4_read 53 = .ok (.ifCond .le 8, 3) := by decide +kernel
theorem dX4_read_56 : decode cX4_read 56 = .ok (.aload_n 0, 1) := by decide +kernel
theorem dX4_read_57 : decode cX4_read 57 = .ok (.iconst 1, 1) := by decide +kernel
theorem dX4_read_58 : decode cX4_read 58 = .ok (.putfield 84, 3) := by decide +kernel
theorem dX4_read_61 : decode cX4_read 61 = .ok (.iload_n 3, 1) := by decide +kernel
theorem dX4_read_62 : decode cX4_read 62 = .ok (.bipush 63, 2) := by decide +kernel
theorem dX4_read_64 : decode cX4_read 64 = .ok (.if_icmp .gt 10, 3) := by decide +kernel
theorem dX4_read_67 : decode cX4_read 67 = .ok (.lload_n 1, 1) := by decide +kernel
theorem dX4_read_68 : decode cX4_read 68 = .ok (.lload 4, 2) := by decide +kernel
theorem dX4_read_70 : decode cX4_read 70 = .ok (.iload_n 3, 1) := by decide +kernel
theorem dX4_read_71 : decode cX4_read 71 = .ok (.lshl, 1) := by decide +kernel
theorem dX4_read_72 : decode cX4_read 72 = .ok (.lor, 1) := by decide +kernel
theorem dX4_read_73 : decode cX4_read 73 = .ok (.lstore_n 1, 1) := by decide +kernel
theorem dX4_read_74 : decode cX4_read 74 = .ok (.aload_n 0, 1) := by decide +kernel
theorem dX4_read_75 : decode cX4_read 75 = .ok (.dup, 1) := by decide +kernel
theorem dX4_read_76 : decode cX4_read 76 = .ok (.getfield 78, 3) := by decide +kernel
theorem dX4_read_79 : decode cX4_read 79 = .ok (.iconst 1, 1) := by decide +kernel
theorem dX4_read_80 : decode cX4_read 80 = .ok (.iadd, 1) := by decide +kernel
theorem dX4_read_81 : decode cX4_read 81 = .ok (.putfield 78, 3) := by decide +kernel
theorem dX4_read_84 : decode cX4_read 84 = .ok (.aload_n 0, 1) := by decide +kernel
theorem dX4_read_85 : decode cX4_read 85 = .ok (.getfield 17, 3) := by decide +kernel
theorem dX4_read_88 : decode cX4_read 88 = .ok (.aload_n 0, 1) := by decide +kernel
theorem dX4_read_89 : decode cX4_read 89 = .ok (.getfield 78, 3) := by decide +kernel
theorem dX4_read_92 : decode cX4_read 92 = .ok (.iconst 1, 1) := by decide +kernel
theorem dX4_read_93 : decode cX4_read 93 = .ok (.isub, 1) := by decide +kernel
theorem dX4_read_94 : decode cX4_read 94 = .ok (.baload, 1) := by decide +kernel
theorem dX4_read_95 : decode cX4_read 95 = .ok (.ifCond .lt 5, 3) := by decide +kernel
theorem dX4_read_98 : decode cX4_read 98 = .ok (.lload_n 1, 1) := by decide +kernel
theorem dX4_read_99 : decode cX4_read 99 = .ok (.lreturn, 1) := by decide +kernel
theorem dX4_read_100 : decode cX4_read 100 = .ok (.iinc 3 7, 3) := by decide +kernel
theorem dX4_read_103 : decode cX4_read 103 = .ok (.goto (-99), 3) := by decide +kernel
theorem dX4_small_0 : decode cX4_small 0 = .ok (.aload_n 0, 1) := by decide +kernel
theorem dX4_small_1 : decode cX4_small 1 = .ok (.invokevirtual 87, 3) := by decide +kernel
theorem dX4_small_4 : decode cX4_small 4 = .ok (.lstore_n 1, 1) := by decide +kernel
theorem dX4_small_5 : decode cX4_small 5 = .ok (.lload_n 1, 1) := by decide +kernel
theorem dX4_small_6 : decode cX4_small 6 = .ok (.lconst 0, 1) := by decide +kernel
theorem dX4_small_7 : decode cX4_small 7 = .ok (.lcmp, 1) := by decide +kernel
theorem dX4_small_8 : decode cX4_small 8 = .ok (.ifCond .lt 11, 3) := by decide +kernel
theorem dX4_small_11 : decode cX4_small 11 = .ok (.lload_n 1, 1) := by decide +kernel
theorem dX4_small_12 : decode cX4_small 12 = .ok (.ldc2_w 91, 3) := by decide +kernel
theorem dX4_small_15 : decode cX4_small 15 = .ok (.lcmp, 1) := by decide +kernel
theorem dX4_small_16 : decode cX4_small 16 = .ok (.ifCond .le 8, 3) := by decide +kernel
theorem dX4_small_19 : decode cX4_small 19 = .ok (.aload_n 0, 1) := by decide +kernel
theorem dX4_small_20 : decode cX4_small 20 = .ok (.iconst 1, 1) := by decide +kernel
theorem dX4_small_21 : decode cX4_small 21 = .ok (.putfield 84, 3) := by decide +kernel
theorem dX4_small_24 : decode cX4_small 24 = .ok (.lload_n 1, 1) := by decide +kernel
theorem dX4_small_25 : decode cX4_small 25 = .ok (.lreturn, 1) := by decide +kernel
theorem dX4_isIndex_0 : decode cX4_isIndex 0 = .ok (.aload_n 0, 1) := by decide +kernel
theorem dX4_isIndex_1 : decode cX4_isIndex 1 = .ok (.getfield 45, 3) := by decide +kernel
theorem dX4_isIndex_4 : decode cX4_isIndex 4 = .ok (.bipush 8, 2) := by decide +kernel
theorem dX4_isIndex_6 : decode cX4_isIndex 6 = .ok (.if_icmp .ge 5, 3) := by decide +kernel
theorem dX4_isIndex_9 : decode cX4_isIndex 9 = .ok (.iconst 0, 1) := by decide +kernel
theorem dX4_isIndex_10 : decode cX4_isIndex 10 = .ok (.ireturn, 1) := by decide +kernel
theorem dX4_isIndex_11 : decode cX4_isIndex 11 = .ok (.lconst 0, 1) := by decide +kernel
theorem dX4_isIndex_12 : decode cX4_isIndex 12 = .ok (.lstore_n 1, 1) := by decide +kernel
theorem dX4_isIndex_13 : decode cX4_isIndex 13 = .ok (.iconst 4, 1) := by decide +kernel
theorem dX4_isIndex_14 : decode cX4_isIndex 14 = .ok (.istore_n 3, 1) := by decide +kernel
theorem dX4_isIndex_15 : decode cX4_isIndex 15 = .ok (.iload_n 3, 1) := by decide +kernel
theorem dX4_isIndex_16 : decode cX4_isIndex 16 = .ok (.ifCond .le 31, 3) := by decide +kernel
theorem dX4_isIndex_19 : decode cX4_isIndex 19 = .ok (.lload_n 1, 1) := by decide +kernel
theorem dX4_isIndex_20 : decode cX4_isIndex 20 = .ok (.bipush 8, 2) := by decide +kernel
theorem dX4_isIndex_22 : decode cX4_isIndex 22 = .ok (.lshl, 1) := by decide +kernel
theorem dX4_isIndex_23 : decode cX4_isIndex 23 = .ok (.aload_n 0, 1) := by decide +kernel
theorem dX4_isIndex_24 : decode cX4_isIndex 24 = .ok (.getfield 17, 3) := by decide +kernel
theorem dX4_isIndex_27 : decode cX4_isIndex 27 = .ok (.aload_n 0, 1) := by decide +kernel
theorem dX4_isIndex_28 : decode cX4_isIndex 28 = .ok (.getfield 45, 3) := by decide +kernel
theorem dX4_isIndex_31 : decode cX4_isIndex 31 = .ok (.iload_n 3, 1) := by decide +kernel
theorem dX4_isIndex_32 : decode cX4_isIndex 32 = .ok (.isub, 1) := by decide +kernel
theorem dX4_isIndex_33 : decode cX4_isIndex 33 = .ok (.baload, 1) := by decide +kernel
theorem dX4_isIndex_34 : decode cX4_isIndex 34 = .ok (.sipush 255, 3) := by decide +kernel
theorem dX4_isIndex_37 : decode cX4_isIndex 37 = .ok (.iand, 1) := by decide +kernel
theorem dX4_isIndex_38 : decode cX4_isIndex 38 = .ok (.i2l, 1) := by decide +kernel
theorem dX4_isIndex_39 : decode cX4_isIndex 39 = .ok (.lor, 1) := by decide +kernel
theorem dX4_isIndex_40 : decode cX4_isIndex 40 = .ok (.lstore_n 1, 1) := by decide +kernel
theorem dX4_isIndex_41 : decode cX4_isIndex 41 = .ok (.iinc 3 (-1), 3) := by decide +kernel
theorem dX4_isIndex_44 : decode cX4_isIndex 44 = .ok (.goto (-29), 3) := by decide +kernel
theorem dX4_isIndex_47 : decode cX4_isIndex 47 = .ok (.lload_n 1, 1) := by decide +kernel
theorem dX4_isIndex_48 : decode cX4_isIndex 48 = .ok (.ldc2_w 93, 3) := by decide +kernel
theorem dX4_isIndex_51 : decode cX4_isIndex 51 = .ok (.ladd, 1) := by decide +kernel
theorem dX4_isIndex_52 : decode cX4_isIndex 52 = .ok (.aload_n 0, 1) := by decide +kernel
theorem dX4_isIndex_53 : decode cX4_isIndex 53 = .ok (.getfield 45, 3) := by decide +kernel
theorem dX4_isIndex_56 : decode cX4_isIndex 56 = .ok (.i2l, 1) := by decide +kernel
theorem dX4_isIndex_57 : decode cX4_isIndex 57 = .ok (.lcmp, 1) := by decide +kernel
theorem dX4_isIndex_58 : decode cX4_isIndex 58 = .ok (.ifCond .le 5, 3) := by decide +kernel
theorem dX4_isIndex_61 : decode cX4_isIndex 61 = .ok (.iconst 0, 1) := by decide +kernel
theorem dX4_isIndex_62 : decode cX4_isIndex 62 = .ok (.ireturn, 1) := by decide +kernel
theorem dX4_isIndex_63 : decode cX4_isIndex 63 = .ok (.aload_n 0, 1) := by decide +kernel
theorem dX4_isIndex_64 : decode cX4_isIndex 64 = .ok (.getfield 45, 3) := by decide +kernel
theorem dX4_isIndex_67 : decode cX4_isIndex 67 = .ok (.bipush 8, 2) := by decide +kernel
theorem dX4_isIndex_69 : decode cX4_isIndex 69 = .ok (.isub, 1) := by decide +kernel
theorem dX4_isIndex_70 : decode cX4_isIndex 70 = .ok (.lload_n 1, 1) := by decide +kernel
theorem dX4_isIndex_71 : decode cX4_isIndex 71 = .ok (.l2i, 1) := by decide +kernel
theorem dX4_isIndex_72 : decode cX4_isIndex 72 = .ok (.isub, 1) := by decide +kernel
theorem dX4_isIndex_73 : decode cX4_isIndex 73 = .ok (.istore_n 3, 1) := by decide +kernel
theorem dX4_isIndex_74 : decode cX4_isIndex 74 = .ok (.aload_n 0, 1) := by decide +kernel
theorem dX4_isIndex_75 : decode cX4_isIndex 75 = .ok (.iload_n 3, 1) := by decide +kernel
theorem dX4_isIndex_76 : decode cX4_isIndex 76 = .ok (.aload_n 0, 1) := by decide +kernel
theorem dX4_isIndex_77 : decode cX4_isIndex 77 = .ok (.getfield 45, 3) := by decide +kernel
theorem dX4_isIndex_80 : decode cX4_isIndex 80 = .ok (.bipush 8, 2) := by decide +kernel
theorem dX4_isIndex_82 : decode cX4_isIndex 82 = .ok (.isub, 1) := by decide +kernel
theorem dX4_isIndex_83 : decode cX4_isIndex 83 = .ok (.invokevirtual 95, 3) := by decide +kernel
theorem dX4_isIndex_86 : decode cX4_isIndex 86 = .ok (.ifCond .ne 5, 3) := by decide +kernel
theorem dX4_isIndex_89 : decode cX4_isIndex 89 = .ok (.iconst 0, 1) := by decide +kernel
theorem dX4_isIndex_90 : decode cX4_isIndex 90 = .ok (.ireturn, 1) := by decide +kernel
theorem dX4_isIndex_91 : decode cX4_isIndex 91 = .ok (.aload_n 0, 1) := by decide +kernel
theorem dX4_isIndex_92 : decode cX4_isIndex 92 = .ok (.iload_n 3, 1) := by decide +kernel
theorem dX4_isIndex_93 : decode cX4_isIndex 93 = .ok (.putfield 78, 3) := by decide +kernel
theorem dX4_isIndex_96 : decode cX4_isIndex 96 = .ok (.aload_n 0, 1) := by decide +kernel
theorem dX4_isIndex_97 : decode cX4_isIndex 97 = .ok (.aload_n 0, 1) := by decide +kernel
theorem dX4_isIndex_98 : decode cX4_isIndex 98 = .ok (.getfield 45, 3) := by decide +kernel
theorem dX4_isIndex_101 : decode cX4_isIndex 101 = .ok (.bipush 8, 2) := by decide +kernel
theorem dX4_isIndex_103 : decode cX4_isIndex 103 = .ok (.isub, 1) := by decide +kernel
theorem dX4_isIndex_104 : decode cX4_isIndex 104 = .ok (.putfield 81, 3) := by decide +kernel
theorem dX4_isIndex_107 : decode cX4_isIndex 107 = .ok (.aload_n 0, 1) := by decide +kernel
theorem dX4_isIndex_108 : decode cX4_isIndex 108 = .ok (.iconst 0, 1) := by decide +kernel
theorem dX4_isIndex_109 : decode cX4_isIndex 109 = .ok (.putfield 84, 3) := by decide +kernel
theorem dX4_isIndex_112 : decode cX4_isIndex 112 = .ok (.aload_n 0, 1) := by decide +kernel
theorem dX4_isIndex_113 : decode cX4_isIndex 113 = .ok (.invokevirtual 99, 3) := by decide +kernel
theorem dX4_isIndex_116 : decode cX4_isIndex 116 = .ok (.lstore 4, 2) := by decide +kernel
theorem dX4_isIndex_118 : decode cX4_isIndex 118 = .ok (.lconst 0, 1) := by decide +kernel
theorem dX4_isIndex_119 : decode cX4_isIndex 119 = .ok (.lstore 6, 2) := by decide +kernel
theorem dX4_isIndex_121 : decode cX4_isIndex 121 = .ok (.aload_n 0, 1) := by decide +kernel
theorem dX4_isIndex_122 : decode cX4_isIndex 122 = .ok (.iconst 0, 1) := by decide +kernel
theorem dX4_isIndex_123 : decode cX4_isIndex 123 = .ok (.putfield 102, 3) := by decide +kernel
theorem dX4_isIndex_126 : decode cX4_isIndex 126 = .ok (.lconst 0, 1) := by decide +kernel
theorem dX4_isIndex_127 : decode cX4_isIndex 127 = .ok (.lstore 8, 2) := by decide +kernel
theorem dX4_isIndex_129 : decode cX4_isIndex 129 = .ok (.lload 8, 2) := by decide +kernel
theorem dX4_isIndex_131 : decode cX4_isIndex 131 = .ok (.lload 4, 2) := by decide +kernel
theorem dX4_isIndex_133 : decode cX4_isIndex 133 = .ok (.lcmp, 1) := by decide +kernel
theorem dX4_isIndex_134 : decode cX4_isIndex 134 = .ok (.ifCond .ge 127, 3) := by decide +kernel
theorem dX4_isIndex_137 : decode cX4_isIndex 137 = .ok (.aload_n 0, 1) := by decide +kernel
theorem dX4_isIndex_138 : decode cX4_isIndex 138 = .ok (.getfield 84, 3) := by decide +kernel
theorem dX4_isIndex_141 : decode cX4_isIndex 141 = .ok (.ifCond .ne 120, 3) := by decide +kernel
theorem dX4_isIndex_144 : decode cX4_isIndex 144 = .ok (.aload_n 0, 1) := by decide +kernel
theorem dX4_isIndex_145 : decode cX4_isIndex 145 = .ok (.invokevirtual 99, 3) := by decide +kernel
theorem dX4_isIndex_148 : decode cX4_isIndex 148 = .ok (.lstore 10, 2) := by decide +kernel
theorem dX4_isIndex_150 : decode cX4_isIndex 150 = .ok (.aload_n 0, 1) := by decide +kernel
theorem dX4_isIndex_151 : decode cX4_isIndex 151 = .ok (.invokevirtual 99, 3) := by decide +kernel
theorem dX4_isIndex_154 : decode cX4_isIndex 154 = .ok (.lstore 12, 2) := by decide +kernel
theorem dX4_isIndex_156 : decode cX4_isIndex 156 = .ok (.aload_n 0, 1) := by decide +kernel
theorem dX4_isIndex_157 : decode cX4_isIndex 157 = .ok (.getfield 84, 3) := by decide +kernel
theorem dX4_isIndex_160 : decode cX4_isIndex 160 = .ok (.ifCond .eq 6, 3) := by decide +kernel
theorem dX4_isIndex_163 : decode cX4_isIndex 163 = .ok (.goto 98, 3) := by decide +kernel
theorem dX4_isIndex_166 : decode cX4_isIndex 166 = .ok (.aload_n 0, 1) := by decide +kernel
theorem dX4_isIndex_167 : decode cX4_isIndex 167 = .ok (.getfield 21, 3) := by decide +kernel
theorem dX4_isIndex_170 : decode cX4_isIndex 170 = .ok (.aload_n 0, 1) := by decide +kernel
theorem dX4_isIndex_171 : decode cX4_isIndex 171 = .ok (.getfield 102, 3) := by decide +kernel
theorem dX4_isIndex_174 : decode cX4_isIndex 174 = .ok (.lload 6, 2) := by decide +kernel
theorem dX4_isIndex_176 : decode cX4_isIndex 176 = .ok (.ldc2_w 105, 3) := by decide +kernel
theorem dX4_isIndex_179 : decode cX4_isIndex 179 = .ok (.lcmp, 1) := by decide +kernel
theorem dX4_isIndex_180 : decode cX4_isIndex 180 = .ok (.ifCond .le 9, 3) := by decide +kernel
theorem dX4_isIndex_183 : decode cX4_isIndex 183 = .ok (.sipush 6000, 3) := by decide +kernel
theorem dX4_isIndex_186 : decode cX4_isIndex 186 = .ok (.goto 6, 3) := by decide +kernel
theorem dX4_isIndex_189 : decode cX4_isIndex 189 = .ok (.lload 6, 2) := by decide +kernel
theorem dX4_isIndex_191 : decode cX4_isIndex 191 = .ok (.l2i, 1) := by decide +kernel
theorem dX4_isIndex_192 : decode cX4_isIndex 192 = .ok (.iastore, 1) := by decide +kernel
theorem dX4_isIndex_193 : decode cX4_isIndex 193 = .ok (.aload_n 0, 1) := by decide +kernel
theorem dX4_isIndex_194 : decode cX4_isIndex 194 = .ok (.getfield 24, 3) := by decide +kernel
theorem dX4_isIndex_197 : decode cX4_isIndex 197 = .ok (.aload_n 0, 1) := by decide +kernel
theorem dX4_isIndex_198 : decode cX4_isIndex 198 = .ok (.getfield 102, 3) := by decide +kernel
theorem dX4_isIndex_201 : decode cX4_isIndex 201 = .ok (.lload 10, 2) := by decide +kernel
theorem dX4_isIndex_203 : decode cX4_isIndex 203 = .ok (.ldc2_w 105, 3) := by decide +kernel
theorem dX4_isIndex_206 : decode cX4_isIndex 206 = .ok (.lcmp, 1) := by decide +kernel
theorem dX4_isIndex_207 : decode cX4_isIndex 207 = .ok (.ifCond .le 9, 3) := by decide +kernel
theorem dX4_isIndex_210 : decode cX4_isIndex 210 = .ok (.sipush 6000, 3) := by decide +kernel
theorem dX4_isIndex_213 : decode cX4_isIndex 213 = .ok (.goto 6, 3) := by decide +kernel
theorem dX4_isIndex_216 : decode cX4_isIndex 216 = .ok (.lload 10, 2) := by decide +kernel
theorem dX4_isIndex_218 : decode cX4_isIndex 218 = .ok (.l2i, 1) := by decide +kernel
theorem dX4_isIndex_219 : decode cX4_isIndex 219 = .ok (.iastore, 1) := by decide +kernel
theorem dX4_isIndex_220 : decode cX4_isIndex 220 = .ok (.aload_n 0, 1) := by decide +kernel
theorem dX4_isIndex_221 : decode cX4_isIndex 221 = .ok (.getfield 27, 3) := by decide +kernel
theorem dX4_isIndex_224 : decode cX4_isIndex 224 = .ok (.aload_n 0, 1) := by decide +kernel
theorem dX4_isIndex_225 : decode cX4_isIndex 225 = .ok (.getfield 102, 3) := by decide +kernel
theorem dX4_isIndex_228 : decode cX4_isIndex 228 = .ok (.lload 12, 2) := by decide +kernel
theorem dX4_isIndex_230 : decode cX4_isIndex 230 = .ok (.invokestatic 107, 3) := by decide +kernel
theorem dX4_isIndex_233 : decode cX4_isIndex 233 = .ok (.l2i, 1) := by decide +kernel
theorem dX4_isIndex_234 : decode cX4_isIndex 234 = .ok (.iastore, 1) := by decide +kernel
theorem dX4_isIndex_235 : decode cX4_isIndex 235 = .ok (.lload 6, 2) := by decide +kernel
theorem dX4_isIndex_237 : decode cX4_isIndex 237 = .ok (.lload 10, 2) := by decide +kernel
theorem dX4_isIndex_239 : decode cX4_isIndex 239 = .ok (.ladd, 1) := by decide +kernel
theorem dX4_isIndex_240 : decode cX4_isIndex 240 = .ok (.lstore 6, 2) := by decide +kernel
theorem dX4_isIndex_242 : decode cX4_isIndex 242 = .ok (.aload_n 0, 1) := by decide +kernel
theorem dX4_isIndex_243 : decode cX4_isIndex 243 = .ok (.dup, 1) := by decide +kernel
theorem dX4_isIndex_244 : decode cX4_isIndex 244 = .ok (.getfield 102, 3) := by decide +kernel
theorem dX4_isIndex_247 : decode cX4_isIndex 247 = .ok (.iconst 1, 1) := by decide +kernel
theorem dX4_isIndex_248 : decode cX4_isIndex 248 = .ok (.iadd, 1) := by decide +kernel
theorem dX4_isIndex_249 : decode cX4_isIndex 249 = .ok (.putfield 102, 3) := by decide +kernel
theorem dX4_isIndex_252 : decode cX4_isIndex 252 = .ok (.lload 8, 2) := by decide +kernel
theorem dX4_isIndex_254 : decode cX4_isIndex 254 = .ok (.lconst 1, 1) := by decide +kernel
theorem dX4_isIndex_255 : decode cX4_isIndex 255 = .ok (.ladd, 1) := by decide +kernel
theorem dX4_isIndex_256 : decode cX4_isIndex 256 = .ok (.lstore 8, 2) := by decide +kernel
theorem dX4_isIndex_258 : decode cX4_isIndex 258 = .ok (.goto (-129), 3) := by decide +kernel
theorem dX4_isIndex_261 : decode cX4_isIndex 261 = .ok (.aload_n 0, 1) := by decide +kernel
theorem dX4_isIndex_262 : decode cX4_isIndex 262 = .ok (.getfield 84, 3) := by decide +kernel
theorem dX4_isIndex_265 : decode cX4_isIndex 265 = .ok (.ifCond .ne 26, 3) := by decide +kernel
theorem dX4_isIndex_268 : decode cX4_isIndex 268 = .ok (.aload_n 0, 1) := by decide +kernel
theorem dX4_isIndex_269 : decode cX4_isIndex 269 = .ok (.getfield 78, 3) := by decide +kernel
theorem dX4_isIndex_272 : decode cX4_isIndex 272 = .ok (.aload_n 0, 1) := by decide +kernel
theorem dX4_isIndex_273 : decode cX4_isIndex 273 = .ok (.getfield 81, 3) := by decide +kernel
theorem dX4_isIndex_276 : decode cX4_isIndex 276 = .ok (.if_icmp .ne 15, 3) := by decide +kernel
theorem dX4_isIndex_279 : decode cX4_isIndex 279 = .ok (.lload 6, 2) := by decide +kernel
theorem dX4_isIndex_281 : decode cX4_isIndex 281 = .ok (.iload_n 3, 1) := by decide +kernel
theorem dX4_isIndex_282 : decode cX4_isIndex 282 = .ok (.i2l, 1) := by decide +kernel
theorem dX4_isIndex_283 : decode cX4_isIndex 283 = .ok (.lcmp, 1) := by decide +kernel
theorem dX4_isIndex_284 : decode cX4_isIndex 284 = .ok (.ifCond .ne 7, 3) := by decide +kernel
theorem dX4_isIndex_287 : decode cX4_isIndex 287 = .ok (.iconst 1, 1) := by decide +kernel
theorem dX4_isIndex_288 : decode cX4_isIndex 288 = .ok (.goto 4, 3) := by decide +kernel
theorem dX4_isIndex_291 : decode cX4_isIndex 291 = .ok (.iconst 0, 1) := by decide +kernel
theorem dX4_isIndex_292 : decode cX4_isIndex 292 = .ok (.ireturn, 1) := by decide +kernel
theorem dX4_isBlock_0 : decode cX4_isBlock 0 = .ok (.aload_n 0, 1) := by decide +kernel
theorem dX4_isBlock_1 : decode cX4_isBlock 1 = .ok (.iconst 0, 1) := by decide +kernel
theorem dX4_isBlock_2 : decode cX4_isBlock 2 = .ok (.putfield 110, 3) := by decide +kernel
theorem dX4_isBlock_5 : decode cX4_isBlock 5 = .ok (.aload_n 0, 1) := by decide +kernel
theorem dX4_isBlock_6 : decode cX4_isBlock 6 = .ok (.getfield 24, 3) := by decide +kernel
theorem dX4_isBlock_9 : decode cX4_isBlock 9 = .ok (.iload_n 1, 1) := by decide +kernel
theorem dX4_isBlock_10 : decode cX4_isBlock 10 = .ok (.iaload, 1) := by decide +kernel
theorem dX4_isBlock_11 : decode cX4_isBlock 11 = .ok (.iconst 4, 1) := by decide +kernel
theorem dX4_isBlock_12 : decode cX4_isBlock 12 = .ok (.if_icmp .ge 5, 3) := by decide +kernel
theorem dX4_isBlock_15 : decode cX4_isBlock 15 = .ok (.iconst 0, 1) := by decide +kernel
theorem dX4_isBlock_16 : decode cX4_isBlock 16 = .ok (.ireturn, 1) := by decide +kernel
theorem dX4_isBlock_17 : decode cX4_isBlock 17 = .ok (.aload_n 0, 1) := by decide +kernel
theorem dX4_isBlock_18 : decode cX4_isBlock 18 = .ok (.aload_n 0, 1) := by decide +kernel
theorem dX4_isBlock_19 : decode cX4_isBlock 19 = .ok (.getfield 21, 3) := by decide +kernel
theorem dX4_isBlock_22 : decode cX4_isBlock 22 = .ok (.iload_n 1, 1) := by decide +kernel
theorem dX4_isBlock_23 : decode cX4_isBlock 23 = .ok (.iaload, 1) := by decide +kernel
theorem dX4_isBlock_24 : decode cX4_isBlock 24 = .ok (.putfield 78, 3) := by decide +kernel
theorem dX4_isBlock_27 : decode cX4_isBlock 27 = .ok (.aload_n 0, 1) := by decide +kernel
theorem dX4_isBlock_28 : decode cX4_isBlock 28 = .ok (.aload_n 0, 1) := by decide +kernel
theorem dX4_isBlock_29 : decode cX4_isBlock 29 = .ok (.getfield 21, 3) := by decide +kernel
theorem dX4_isBlock_32 : decode cX4_isBlock 32 = .ok (.iload_n 1, 1) := by decide +kernel
theorem dX4_isBlock_33 : decode cX4_isBlock 33 = .ok (.iaload, 1) := by decide +kernel
theorem dX4_isBlock_34 : decode cX4_isBlock 34 = .ok (.aload_n 0, 1) := by decide +kernel
theorem dX4_isBlock_35 : decode cX4_isBlock 35 = .ok (.getfield 24, 3) := by decide +kernel
theorem dX4_isBlock_38 : decode cX4_isBlock 38 = .ok (.iload_n 1, 1) := by decide +kernel
theorem dX4_isBlock_39 : decode cX4_isBlock 39 = .ok (.iaload, 1) := by decide +kernel
theorem dX4_isBlock_40 : decode cX4_isBlock 40 = .ok (.iadd, 1) := by decide +kernel
theorem dX4_isBlock_41 : decode cX4_isBlock 41 = .ok (.iconst 4, 1) := by decide +kernel
theorem dX4_isBlock_42 : decode cX4_isBlock 42 = .ok (.isub, 1) := by decide +kernel
theorem dX4_isBlock_43 : decode cX4_isBlock 43 = .ok (.putfield 81, 3) := by decide +kernel
theorem dX4_isBlock_46 : decode cX4_isBlock 46 = .ok (.aload_n 0, 1) := by decide +kernel
theorem dX4_isBlock_47 : decode cX4_isBlock 47 = .ok (.aload_n 0, 1) := by decide +kernel
theorem dX4_isBlock_48 : decode cX4_isBlock 48 = .ok (.getfield 78, 3) := by decide +kernel
theorem dX4_isBlock_51 : decode cX4_isBlock 51 = .ok (.aload_n 0, 1) := by decide +kernel
theorem dX4_isBlock_52 : decode cX4_isBlock 52 = .ok (.getfield 81, 3) := by decide +kernel
theorem dX4_isBlock_55 : decode cX4_isBlock 55 = .ok (.invokevirtual 95, 3) := by decide +kernel
theorem dX4_isBlock_58 : decode cX4_isBlock 58 = .ok (.ifCond .ne 5, 3) := by decide +kernel
theorem dX4_isBlock_61 : decode cX4_isBlock 61 = .ok (.iconst 0, 1) := by decide +kernel
theorem dX4_isBlock_62 : decode cX4_isBlock 62 = .ok (.ireturn, 1) := by decide +kernel
theorem dX4_isBlock_63 : decode cX4_isBlock 63 = .ok (.aload_n 0, 1) := by decide +kernel
theorem dX4_isBlock_64 : decode cX4_isBlock 64 = .ok (.iconst 0, 1) := by decide +kernel
theorem dX4_isBlock_65 : decode cX4_isBlock 65 = .ok (.putfield 84, 3) := by decide +kernel
theorem dX4_isBlock_68 : decode cX4_isBlock 68 = .ok (.aload_n 0, 1) := by decide +kernel
theorem dX4_isBlock_69 : decode cX4_isBlock 69 = .ok (.getfield 78, 3) := by decide +kernel
theorem dX4_isBlock_72 : decode cX4_isBlock 72 = .ok (.aload_n 0, 1) := by decide +kernel
theorem dX4_isBlock_73 : decode cX4_isBlock 73 = .ok (.getfield 81, 3) := by decide +kernel
theorem dX4_isBlock_76 : decode cX4_isBlock 76 = .ok (.if_icmp .ge 89, 3) := by decide +kernel
theorem dX4_isBlock_79 : decode cX4_isBlock 79 = .ok (.aload_n 0, 1) := by decide +kernel
