theorem dd_Mo_best_0 : decode cc_Mo_best 0 = .ok (.iload_n 1, 1) := by decide +kernel
theorem dd_Mo_best_1 : decode cc_Mo_best 1 = .ok (.invokestatic 81, 3) := by decide +kernel
theorem dd_Mo_best_4 : decode cc_Mo_best 4 = .ok (.ifCond .eq 12, 3) := by decide +kernel
theorem dd_Mo_best_7 : decode cc_Mo_best 7 = .ok (.aload_n 0, 1) := by decide +kernel
theorem dd_Mo_best_8 : decode cc_Mo_best 8 = .ok (.getfield 13, 3) := by decide +kernel
theorem dd_Mo_best_11 : decode cc_Mo_best 11 = .ok (.iload_n 1, 1) := by decide +kernel
theorem dd_Mo_best_12 : decode cc_Mo_best 12 = .ok (.iaload, 1) := by decide +kernel
theorem dd_Mo_best_13 : decode cc_Mo_best 13 = .ok (.ifCond .ge 7, 3) := by decide +kernel
theorem dd_Mo_best_16 : decode cc_Mo_best 16 = .ok (.ldc2_w 79, 3) := by decide +kernel
theorem dd_Mo_best_19 : decode cc_Mo_best 19 = .ok (.lreturn, 1) := by decide +kernel
theorem dd_Mo_best_20 : decode cc_Mo_best 20 = .ok (.aload_n 0, 1) := by decide +kernel
theorem dd_Mo_best_21 : decode cc_Mo_best 21 = .ok (.iload_n 1, 1) := by decide +kernel
theorem dd_Mo_best_22 : decode cc_Mo_best 22 = .ok (.invokevirtual 148, 3) := by decide +kernel
theorem dd_Mo_best_25 : decode cc_Mo_best 25 = .ok (.aload_n 0, 1) := by decide +kernel
theorem dd_Mo_best_26 : decode cc_Mo_best 26 = .ok (.getfield 13, 3) := by decide +kernel
theorem dd_Mo_best_29 : decode cc_Mo_best 29 = .ok (.iload_n 1, 1) := by decide +kernel
theorem dd_Mo_best_30 : decode cc_Mo_best 30 = .ok (.iaload, 1) := by decide +kernel
theorem dd_Mo_best_31 : decode cc_Mo_best 31 = .ok (.istore_n 2, 1) := by decide +kernel
theorem dd_Mo_best_32 : decode cc_Mo_best 32 = .ok (.aload_n 0, 1) := by decide +kernel
theorem dd_Mo_best_33 : decode cc_Mo_best 33 = .ok (.getfield 50, 3) := by decide +kernel
theorem dd_Mo_best_36 : decode cc_Mo_best 36 = .ok (.iload_n 2, 1) := by decide +kernel
theorem dd_Mo_best_37 : decode cc_Mo_best 37 = .ok (.laload, 1) := by decide +kernel
theorem dd_Mo_best_38 : decode cc_Mo_best 38 = .ok (.ldc2_w 129, 3) := by decide +kernel
theorem dd_Mo_best_41 : decode cc_Mo_best 41 = .ok (.lcmp, 1) := by decide +kernel
theorem dd_Mo_best_42 : decode cc_Mo_best 42 = .ok (.ifCond .ne 7, 3) := by decide +kernel
theorem dd_Mo_best_45 : decode cc_Mo_best 45 = .ok (.ldc2_w 79, 3) := by decide +kernel
theorem dd_Mo_best_48 : decode cc_Mo_best 48 = .ok (.lreturn, 1) := by decide +kernel
theorem dd_Mo_best_49 : decode cc_Mo_best 49 = .ok (.aload_n 0, 1) := by decide +kernel
theorem dd_Mo_best_50 : decode cc_Mo_best 50 = .ok (.getfield 16, 3) := by decide +kernel
theorem dd_Mo_best_53 : decode cc_Mo_best 53 = .ok (.iload_n 1, 1) := by decide +kernel
theorem dd_Mo_best_54 : decode cc_Mo_best 54 = .ok (.laload, 1) := by decide +kernel
theorem dd_Mo_best_55 : decode cc_Mo_best 55 = .ok (.aload_n 0, 1) := by decide +kernel
theorem dd_Mo_best_56 : decode cc_Mo_best 56 = .ok (.getfield 50, 3) := by decide +kernel
theorem dd_Mo_best_59 : decode cc_Mo_best 59 = .ok (.iload_n 2, 1) := by decide +kernel
theorem dd_Mo_best_60 : decode cc_Mo_best 60 = .ok (.laload, 1) := by decide +kernel
theorem dd_Mo_best_61 : decode cc_Mo_best 61 = .ok (.ladd, 1) := by decide +kernel
theorem dd_Mo_best_62 : decode cc_Mo_best 62 = .ok (.lstore_n 3, 1) := by decide +kernel
theorem dd_Mo_best_63 : decode cc_Mo_best 63 = .ok (.aload_n 0, 1) := by decide +kernel
theorem dd_Mo_best_64 : decode cc_Mo_best 64 = .ok (.iconst 0, 1) := by decide +kernel
theorem dd_Mo_best_65 : decode cc_Mo_best 65 = .ok (.putfield 177, 3) := by decide +kernel
theorem dd_Mo_best_68 : decode cc_Mo_best 68 = .ok (.aload_n 0, 1) := by decide +kernel
theorem dd_Mo_best_69 : decode cc_Mo_best 69 = .ok (.getfield 53, 3) := by decide +kernel
theorem dd_Mo_best_72 : decode cc_Mo_best 72 = .ok (.iload_n 2, 1) := by decide +kernel
theorem dd_Mo_best_73 : decode cc_Mo_best 73 = .ok (.iaload, 1) := by decide +kernel
theorem dd_Mo_best_74 : decode cc_Mo_best 74 = .ok (.ifCond .le 207, 3) := by decide +kernel
theorem dd_Mo_best_77 : decode cc_Mo_best 77 = .ok (.bipush 65, 2) := by decide +kernel
theorem dd_Mo_best_79 : decode cc_Mo_best 79 = .ok (.iload_n 1, 1) := by decide +kernel
theorem dd_Mo_best_80 : decode cc_Mo_best 80 = .ok (.imul, 1) := by decide +kernel
theorem dd_Mo_best_81 : decode cc_Mo_best 81 = .ok (.istore 5, 2) := by decide +kernel
theorem dd_Mo_best_83 : decode cc_Mo_best 83 = .ok (.aload_n 0, 1) := by decide +kernel
theorem dd_Mo_best_84 : decode cc_Mo_best 84 = .ok (.getfield 26, 3) := by decide +kernel
theorem dd_Mo_best_87 : decode cc_Mo_best 87 = .ok (.iload 5, 2) := by decide +kernel
theorem dd_Mo_best_89 : decode cc_Mo_best 89 = .ok (.iaload, 1) := by decide +kernel
theorem dd_Mo_best_90 : decode cc_Mo_best 90 = .ok (.iload_n 2, 1) := by decide +kernel
theorem dd_Mo_best_91 : decode cc_Mo_best 91 = .ok (.if_icmp .ne 75, 3) := by decide +kernel
theorem dd_Mo_best_94 : decode cc_Mo_best 94 = .ok (.aload_n 0, 1) := by decide +kernel
theorem dd_Mo_best_95 : decode cc_Mo_best 95 = .ok (.getfield 50, 3) := by decide +kernel
theorem dd_Mo_best_98 : decode cc_Mo_best 98 = .ok (.aload_n 0, 1) := by decide +kernel
theorem dd_Mo_best_99 : decode cc_Mo_best 99 = .ok (.getfield 29, 3) := by decide +kernel
theorem dd_Mo_best_102 : decode cc_Mo_best 102 = .ok (.iload 5, 2) := by decide +kernel
theorem dd_Mo_best_104 : decode cc_Mo_best 104 = .ok (.iaload, 1) := by decide +kernel
theorem dd_Mo_best_105 : decode cc_Mo_best 105 = .ok (.laload, 1) := by decide +kernel
theorem dd_Mo_best_106 : decode cc_Mo_best 106 = .ok (.ldc2_w 129, 3) := by decide +kernel
theorem dd_Mo_best_109 : decode cc_Mo_best 109 = .ok (.lcmp, 1) := by decide +kernel
theorem dd_Mo_best_110 : decode cc_Mo_best 110 = .ok (.ifCond .eq 56, 3) := by decide +kernel
theorem dd_Mo_best_113 : decode cc_Mo_best 113 = .ok (.aload_n 0, 1) := by decide +kernel
theorem dd_Mo_best_114 : decode cc_Mo_best 114 = .ok (.getfield 50, 3) := by decide +kernel
theorem dd_Mo_best_117 : decode cc_Mo_best 117 = .ok (.aload_n 0, 1) := by decide +kernel
theorem dd_Mo_best_118 : decode cc_Mo_best 118 = .ok (.getfield 29, 3) := by decide +kernel
theorem dd_Mo_best_121 : decode cc_Mo_best 121 = .ok (.iload 5, 2) := by decide +kernel
theorem dd_Mo_best_123 : decode cc_Mo_best 123 = .ok (.iaload, 1) := by decide +kernel
theorem dd_Mo_best_124 : decode cc_Mo_best 124 = .ok (.laload, 1) := by decide +kernel
theorem dd_Mo_best_125 : decode cc_Mo_best 125 = .ok (.aload_n 0, 1) := by decide +kernel
theorem dd_Mo_best_126 : decode cc_Mo_best 126 = .ok (.getfield 38, 3) := by decide +kernel
theorem dd_Mo_best_129 : decode cc_Mo_best 129 = .ok (.iload 5, 2) := by decide +kernel
theorem dd_Mo_best_131 : decode cc_Mo_best 131 = .ok (.laload, 1) := by decide +kernel
theorem dd_Mo_best_132 : decode cc_Mo_best 132 = .ok (.ladd, 1) := by decide +kernel
theorem dd_Mo_best_133 : decode cc_Mo_best 133 = .ok (.aload_n 0, 1) := by decide +kernel
theorem dd_Mo_best_134 : decode cc_Mo_best 134 = .ok (.getfield 50, 3) := by decide +kernel
theorem dd_Mo_best_137 : decode cc_Mo_best 137 = .ok (.iload_n 2, 1) := by decide +kernel
theorem dd_Mo_best_138 : decode cc_Mo_best 138 = .ok (.laload, 1) := by decide +kernel
theorem dd_Mo_best_139 : decode cc_Mo_best 139 = .ok (.lcmp, 1) := by decide +kernel
theorem dd_Mo_best_140 : decode cc_Mo_best 140 = .ok (.ifCond .ne 26, 3) := by decide +kernel
theorem dd_Mo_best_143 : decode cc_Mo_best 143 = .ok (.aload_n 0, 1) := by decide +kernel
theorem dd_Mo_best_144 : decode cc_Mo_best 144 = .ok (.getfield 53, 3) := by decide +kernel
theorem dd_Mo_best_147 : decode cc_Mo_best 147 = .ok (.aload_n 0, 1) := by decide +kernel
theorem dd_Mo_best_148 : decode cc_Mo_best 148 = .ok (.getfield 29, 3) := by decide +kernel
theorem dd_Mo_best_151 : decode cc_Mo_best 151 = .ok (.iload 5, 2) := by decide +kernel
theorem dd_Mo_best_153 : decode cc_Mo_best 153 = .ok (.iaload, 1) := by decide +kernel
theorem dd_Mo_best_154 : decode cc_Mo_best 154 = .ok (.iaload, 1) := by decide +kernel
theorem dd_Mo_best_155 : decode cc_Mo_best 155 = .ok (.iconst 1, 1) := by decide +kernel
theorem dd_Mo_best_156 : decode cc_Mo_best 156 = .ok (.iadd, 1) := by decide +kernel
theorem dd_Mo_best_157 : decode cc_Mo_best 157 = .ok (.aload_n 0, 1) := by decide +kernel
theorem dd_Mo_best_158 : decode cc_Mo_best 158 = .ok (.getfield 53, 3) := by decide +kernel
theorem dd_Mo_best_161 : decode cc_Mo_best 161 = .ok (.iload_n 2, 1) := by decide +kernel
theorem dd_Mo_best_162 : decode cc_Mo_best 162 = .ok (.iaload, 1) := by decide +kernel
theorem dd_Mo_best_163 : decode cc_Mo_best 163 = .ok (.if_icmp .eq 9, 3) := by decide +kernel
theorem dd_Mo_best_166 : decode cc_Mo_best 166 = .ok (.iinc 5 1, 3) := by decide +kernel
theorem dd_Mo_best_169 : decode cc_Mo_best 169 = .ok (.goto (-86), 3) := by decide +kernel
theorem dd_Mo_best_172 : decode cc_Mo_best 172 = .ok (.aload_n 0, 1) := by decide +kernel
theorem dd_Mo_best_173 : decode cc_Mo_best 173 = .ok (.getfield 41, 3) := by decide +kernel
theorem dd_Mo_best_176 : decode cc_Mo_best 176 = .ok (.iconst 5, 1) := by decide +kernel
theorem dd_Mo_best_177 : decode cc_Mo_best 177 = .ok (.aload_n 0, 1) := by decide +kernel
theorem dd_Mo_best_178 : decode cc_Mo_best 178 = .ok (.getfield 177, 3) := by decide +kernel
theorem dd_Mo_best_181 : decode cc_Mo_best 181 = .ok (.imul, 1) := by decide +kernel
theorem dd_Mo_best_182 : decode cc_Mo_best 182 = .ok (.iload_n 2, 1) := by decide +kernel
theorem dd_Mo_best_183 : decode cc_Mo_best 183 = .ok (.iastore, 1) := by decide +kernel
theorem dd_Mo_best_184 : decode cc_Mo_best 184 = .ok (.aload_n 0, 1) := by decide +kernel
theorem dd_Mo_best_185 : decode cc_Mo_best 185 = .ok (.getfield 41, 3) := by decide +kernel
theorem dd_Mo_best_188 : decode cc_Mo_best 188 = .ok (.iconst 5, 1) := by decide +kernel
theorem dd_Mo_best_189 : decode cc_Mo_best 189 = .ok (.aload_n 0, 1) := by decide +kernel
theorem dd_Mo_best_190 : decode cc_Mo_best 190 = .ok (.getfield 177, 3) := by decide +kernel
theorem dd_Mo_best_193 : decode cc_Mo_best 193 = .ok (.imul, 1) := by decide +kernel
theorem dd_Mo_best_194 : decode cc_Mo_best 194 = .ok (.iconst 1, 1) := by decide +kernel
theorem dd_Mo_best_195 : decode cc_Mo_best 195 = .ok (.iadd, 1) := by decide +kernel
theorem dd_Mo_best_196 : decode cc_Mo_best 196 = .ok (.aload_n 0, 1) := by decide +kernel
theorem dd_Mo_best_197 : decode cc_Mo_best 197 = .ok (.getfield 29, 3) := by decide +kernel
theorem dd_Mo_best_200 : decode cc_Mo_best 200 = .ok (.iload 5, 2) := by decide +kernel
theorem dd_Mo_best_202 : decode cc_Mo_best 202 = .ok (.iaload, 1) := by decide +kernel
theorem dd_Mo_best_203 : decode cc_Mo_best 203 = .ok (.iastore, 1) := by decide +kernel
theorem dd_Mo_best_204 : decode cc_Mo_best 204 = .ok (.aload_n 0, 1) := by decide +kernel
theorem dd_Mo_best_205 : decode cc_Mo_best 205 = .ok (.getfield 41, 3) := by decide +kernel
theorem dd_Mo_best_208 : decode cc_Mo_best 208 = .ok (.iconst 5, 1) := by decide +kernel
theorem dd_Mo_best_209 : decode cc_Mo_best 209 = .ok (.aload_n 0, 1) := by decide +kernel
theorem dd_Mo_best_210 : decode cc_Mo_best 210 = .ok (.getfield 177, 3) := by decide +kernel
theorem dd_Mo_best_213 : decode cc_Mo_best 213 = .ok (.imul, 1) := by decide +kernel
theorem dd_Mo_best_214 : decode cc_Mo_best 214 = .ok (.iconst 2, 1) := by decide +kernel
theorem dd_Mo_best_215 : decode cc_Mo_best 215 = .ok (.iadd, 1) := by decide +kernel
theorem dd_Mo_best_216 : decode cc_Mo_best 216 = .ok (.aload_n 0, 1) := by decide +kernel
theorem dd_Mo_best_217 : decode cc_Mo_best 217 = .ok (.getfield 32, 3) := by decide +kernel
theorem dd_Mo_best_220 : decode cc_Mo_best 220 = .ok (.iload 5, 2) := by decide +kernel
theorem dd_Mo_best_222 : decode cc_Mo_best 222 = .ok (.iaload, 1) := by decide +kernel
theorem dd_Mo_best_223 : decode cc_Mo_best 223 = .ok (.iastore, 1) := by decide +kernel
theorem dd_Mo_best_224 : decode cc_Mo_best 224 = .ok (.aload_n 0, 1) := by decide +kernel
theorem dd_Mo_best_225 : decode cc_Mo_best 225 = .ok (.getfield 41, 3) := by decide +kernel
theorem dd_Mo_best_228 : decode cc_Mo_best 228 = .ok (.iconst 5, 1) := by decide +kernel
theorem dd_Mo_best_229 : decode cc_Mo_best 229 = .ok (.aload_n 0, 1) := by decide +kernel
theorem dd_Mo_best_230 : decode cc_Mo_best 230 = .ok (.getfield 177, 3) := by decide +kernel
theorem dd_Mo_best_233 : decode cc_Mo_best 233 = .ok (.imul, 1) := by decide +kernel
theorem dd_Mo_best_234 : decode cc_Mo_best 234 = .ok (.iconst 3, 1) := by decide +kernel
theorem dd_Mo_best_235 : decode cc_Mo_best 235 = .ok (.iadd, 1) := by decide +kernel
theorem dd_Mo_best_236 : decode cc_Mo_best 236 = .ok (.aload_n 0, 1) := by decide +kernel
theorem dd_Mo_best_237 : decode cc_Mo_best 237 = .ok (.getfield 35, 3) := by decide +kernel
theorem dd_Mo_best_240 : decode cc_Mo_best 240 = .ok (.iload 5, 2) := by decide +kernel
theorem dd_Mo_best_242 : decode cc_Mo_best 242 = .ok (.iaload, 1) := by decide +kernel
theorem dd_Mo_best_243 : decode cc_Mo_best 243 = .ok (.iastore, 1) := by decide +kernel
theorem dd_Mo_best_244 : decode cc_Mo_best 244 = .ok (.aload_n 0, 1) := by decide +kernel
theorem dd_Mo_best_245 : decode cc_Mo_best 245 = .ok (.getfield 44, 3) := by decide +kernel
theorem dd_Mo_best_248 : decode cc_Mo_best 248 = .ok (.aload_n 0, 1) := by decide +kernel
theorem dd_Mo_best_249 : decode cc_Mo_best 249 = .ok (.getfield 177, 3) := by decide +kernel
theorem dd_Mo_best_252 : decode cc_Mo_best 252 = .ok (.aload_n 0, 1) := by decide +kernel
theorem dd_Mo_best_253 : decode cc_Mo_best 253 = .ok (.getfield 38, 3) := by decide +kernel
theorem dd_Mo_best_256 : decode cc_Mo_best 256 = .ok (.iload 5, 2) := by decide +kernel
theorem dd_Mo_best_258 : decode cc_Mo_best 258 = .ok (.laload, 1) := by decide +kernel
theorem dd_Mo_best_259 : decode cc_Mo_best 259 = .ok (.lastore, 1) := by decide +kernel
theorem dd_Mo_best_260 : decode cc_Mo_best 260 = .ok (.aload_n 0, 1) := by decide +kernel
theorem dd_Mo_best_261 : decode cc_Mo_best 261 = .ok (.dup, 1) := by decide +kernel
theorem dd_Mo_best_262 : decode cc_Mo_best 262 = .ok (.getfield 177, 3) := by decide +kernel
theorem dd_Mo_best_265 : decode cc_Mo_best 265 = .ok (.iconst 1, 1) := by decide +kernel
theorem dd_Mo_best_266 : decode cc_Mo_best 266 = .ok (.iadd, 1) := by decide +kernel
theorem dd_Mo_best_267 : decode cc_Mo_best 267 = .ok (.putfield 177, 3) := by decide +kernel
theorem dd_Mo_best_270 : decode cc_Mo_best 270 = .ok (.aload_n 0, 1) := by decide +kernel
theorem dd_Mo_best_271 : decode cc_Mo_best 271 = .ok (.getfield 29, 3) := by decide +kernel
theorem dd_Mo_best_274 : decode cc_Mo_best 274 = .ok (.iload 5, 2) := by decide +kernel
theorem dd_Mo_best_276 : decode cc_Mo_best 276 = .ok (.iaload, 1) := by decide +kernel
theorem dd_Mo_best_277 : decode cc_Mo_best 277 = .ok (.istore_n 2, 1) := by decide +kernel
theorem dd_Mo_best_278 : decode cc_Mo_best 278 = .ok (.goto (-210), 3) := by decide +kernel
theorem dd_Mo_best_281 : decode cc_Mo_best 281 = .ok (.lload_n 3, 1) := by decide +kernel
theorem dd_Mo_best_282 : decode cc_Mo_best 282 = .ok (.lreturn, 1) := by decide +kernel
theorem dd_Mo_findReached_0 : decode cc_Mo_findReached 0 = .ok (.iconst 0, 1) := by decide +kernel
theorem dd_Mo_findReached_1 : decode cc_Mo_findReached 1 = .ok (.istore_n 2, 1) := by decide +kernel
theorem dd_Mo_findReached_2 : decode cc_Mo_findReached 2 = .ok (.iload_n 2, 1) := by decide +kernel
theorem dd_Mo_findReached_3 : decode cc_Mo_findReached 3 = .ok (.bipush 16, 2) := by decide +kernel
theorem dd_Mo_findReached_5 : decode cc_Mo_findReached 5 = .ok (.if_icmp .ge 30, 3) := by decide +kernel
theorem dd_Mo_findReached_8 : decode cc_Mo_findReached 8 = .ok (.aload_n 0, 1) := by decide +kernel
theorem dd_Mo_findReached_9 : decode cc_Mo_findReached 9 = .ok (.getfield 56, 3) := by decide +kernel
theorem dd_Mo_findReached_12 : decode cc_Mo_findReached 12 = .ok (.iload_n 2, 1) := by decide +kernel
theorem dd_Mo_findReached_13 : decode cc_Mo_findReached 13 = .ok (.iload_n 2, 1) := by decide +kernel
theorem dd_Mo_findReached_14 : decode cc_Mo_findReached 14 = .ok (.aload_n 0, 1) := by decide +kernel
theorem dd_Mo_findReached_15 : decode cc_Mo_findReached 15 = .ok (.getfield 13, 3) := by decide +kernel
theorem dd_Mo_findReached_18 : decode cc_Mo_findReached 18 = .ok (.iload_n 1, 1) := by decide +kernel
theorem dd_Mo_findReached_19 : decode cc_Mo_findReached 19 = .ok (.iaload, 1) := by decide +kernel
theorem dd_Mo_findReached_20 : decode cc_Mo_findReached 20 = .ok (.if_icmp .ne 7, 3) := by decide +kernel
theorem dd_Mo_findReached_23 : decode cc_Mo_findReached 23 = .ok (.iconst 1, 1) := by decide +kernel
theorem dd_Mo_findReached_24 : decode cc_Mo_findReached 24 = .ok (.goto 4, 3) := by decide +kernel
theorem dd_Mo_findReached_27 : decode cc_Mo_findReached 27 = .ok (.iconst 0, 1) := by decide +kernel
theorem dd_Mo_findReached_28 : decode cc_Mo_findReached 28 = .ok (.bastore, 1) := by decide +kernel
theorem dd_Mo_findReached_29 : decode cc_Mo_findReached 29 = .ok (.iinc 2 1, 3) := by decide +kernel
theorem dd_Mo_findReached_32 : decode cc_Mo_findReached 32 = .ok (.goto (-30), 3) := by decide +kernel
theorem dd_Mo_findReached_35 : decode cc_Mo_findReached 35 = .ok (.iconst 0, 1) := by decide +kernel
theorem dd_Mo_findReached_36 : decode cc_Mo_findReached 36 = .ok (.istore_n 2, 1) := by decide +kernel
theorem dd_Mo_findReached_37 : decode cc_Mo_findReached 37 = .ok (.iload_n 2, 1) := by decide +kernel
theorem dd_Mo_findReached_38 : decode cc_Mo_findReached 38 = .ok (.bipush 16, 2) := by decide +kernel
theorem dd_Mo_findReached_40 : decode cc_Mo_findReached 40 = .ok (.if_icmp .ge 79, 3) := by decide +kernel
theorem dd_Mo_findReached_43 : decode cc_Mo_findReached 43 = .ok (.bipush 65, 2) := by decide +kernel
theorem dd_Mo_findReached_45 : decode cc_Mo_findReached 45 = .ok (.iload_n 1, 1) := by decide +kernel
theorem dd_Mo_findReached_46 : decode cc_Mo_findReached 46 = .ok (.imul, 1) := by decide +kernel
theorem dd_Mo_findReached_47 : decode cc_Mo_findReached 47 = .ok (.istore_n 3, 1) := by decide +kernel
theorem dd_Mo_findReached_48 : decode cc_Mo_findReached 48 = .ok (.iload_n 3, 1) := by decide +kernel
theorem dd_Mo_findReached_49 : decode cc_Mo_findReached 49 = .ok (.bipush 65, 2) := by decide +kernel
theorem dd_Mo_findReached_51 : decode cc_Mo_findReached 51 = .ok (.iload_n 1, 1) := by decide +kernel
theorem dd_Mo_findReached_52 : decode cc_Mo_findReached 52 = .ok (.imul, 1) := by decide +kernel
theorem dd_Mo_findReached_53 : decode cc_Mo_findReached 53 = .ok (.aload_n 0, 1) := by decide +kernel
theorem dd_Mo_findReached_54 : decode cc_Mo_findReached 54 = .ok (.getfield 23, 3) := by decide +kernel
theorem dd_Mo_findReached_57 : decode cc_Mo_findReached 57 = .ok (.iload_n 1, 1) := by decide +kernel
theorem dd_Mo_findReached_58 : decode cc_Mo_findReached 58 = .ok (.iaload, 1) := by decide +kernel
theorem dd_Mo_findReached_59 : decode cc_Mo_findReached 59 = .ok (.iadd, 1) := by decide +kernel
theorem dd_Mo_findReached_60 : decode cc_Mo_findReached 60 = .ok (.if_icmp .ge 53, 3) := by decide +kernel
theorem dd_Mo_findReached_63 : decode cc_Mo_findReached 63 = .ok (.aload_n 0, 1) := by decide +kernel
theorem dd_Mo_findReached_64 : decode cc_Mo_findReached 64 = .ok (.getfield 56, 3) := by decide +kernel
theorem dd_Mo_findReached_67 : decode cc_Mo_findReached 67 = .ok (.aload_n 0, 1) := by decide +kernel
theorem dd_Mo_findReached_68 : decode cc_Mo_findReached 68 = .ok (.getfield 29, 3) := by decide +kernel
theorem dd_Mo_findReached_71 : decode cc_Mo_findReached 71 = .ok (.iload_n 3, 1) := by decide +kernel
theorem dd_Mo_findReached_72 : decode cc_Mo_findReached 72 = .ok (.iaload, 1) := by decide +kernel
theorem dd_Mo_findReached_73 : decode cc_Mo_findReached 73 = .ok (.aload_n 0, 1) := by decide +kernel
theorem dd_Mo_findReached_74 : decode cc_Mo_findReached 74 = .ok (.getfield 56, 3) := by decide +kernel
theorem dd_Mo_findReached_77 : decode cc_Mo_findReached 77 = .ok (.aload_n 0, 1) := by decide +kernel
theorem dd_Mo_findReached_78 : decode cc_Mo_findReached 78 = .ok (.getfield 29, 3) := by decide +kernel
theorem dd_Mo_findReached_81 : decode cc_Mo_findReached 81 = .ok (.iload_n 3, 1) := by decide +kernel
theorem dd_Mo_findReached_82 : decode cc_Mo_findReached 82 = .ok (.iaload, 1) := by decide +kernel
theorem dd_Mo_findReached_83 : decode cc_Mo_findReached 83 = .ok (.baload, 1) := by decide +kernel
theorem dd_Mo_findReached_84 : decode cc_Mo_findReached 84 = .ok (.ifCond .ne 17, 3) := by decide +kernel
theorem dd_Mo_findReached_87 : decode cc_Mo_findReached 87 = .ok (.aload_n 0, 1) := by decide +kernel
theorem dd_Mo_findReached_88 : decode cc_Mo_findReached 88 = .ok (.getfield 56, 3) := by decide +kernel
theorem dd_Mo_findReached_91 : decode cc_Mo_findReached 91 = .ok (.aload_n 0, 1) := by decide +kernel
theorem dd_Mo_findReached_92 : decode cc_Mo_findReached 92 = .ok (.getfield 26, 3) := by decide +kernel
theorem dd_Mo_findReached_95 : decode cc_Mo_findReached 95 = .ok (.iload_n 3, 1) := by decide +kernel
theorem dd_Mo_findReached_96 : decode cc_Mo_findReached 96 = .ok (.iaload, 1) := by decide +kernel
theorem dd_Mo_findReached_97 : decode cc_Mo_findReached 97 = .ok (.baload, 1) := by decide +kernel
theorem dd_Mo_findReached_98 : decode cc_Mo_findReached 98 = .ok (.ifCond .eq 7, 3) := by decide +kernel
theorem dd_Mo_findReached_101 : decode cc_Mo_findReached 101 = .ok (.iconst 1, 1) := by decide +kernel
theorem dd_Mo_findReached_102 : decode cc_Mo_findReached 102 = .ok (.goto 4, 3) := by decide +kernel
theorem dd_Mo_findReached_105 : decode cc_Mo_findReached 105 = .ok (.iconst 0, 1) := by decide +kernel
theorem dd_Mo_findReached_106 : decode cc_Mo_findReached 106 = .ok (.bastore, 1) := by decide +kernel
theorem dd_Mo_findReached_107 : decode cc_Mo_findReached 107 = .ok (.iinc 3 1, 3) := by decide +kernel
theorem dd_Mo_findReached_110 : decode cc_Mo_findReached 110 = .ok (.goto (-62), 3) := by decide +kernel
theorem dd_Mo_findReached_113 : decode cc_Mo_findReached 113 = .ok (.iinc 2 1, 3) := by decide +kernel
theorem dd_Mo_findReached_116 : decode cc_Mo_findReached 116 = .ok (.goto (-79), 3) := by decide +kernel
theorem dd_Mo_findReached_119 : decode cc_Mo_findReached 119 = .ok (.return_, 1) := by decide +kernel
theorem dd_Mo_rank_0 : decode cc_Mo_rank 0 = .ok (.iconst 0, 1) := by decide +kernel
theorem dd_Mo_rank_1 : decode cc_Mo_rank 1 = .ok (.istore_n 2, 1) := by decide +kernel
theorem dd_Mo_rank_2 : decode cc_Mo_rank 2 = .ok (.iconst 0, 1) := by decide +kernel
theorem dd_Mo_rank_3 : decode cc_Mo_rank 3 = .ok (.istore_n 3, 1) := by decide +kernel
theorem dd_Mo_rank_4 : decode cc_Mo_rank 4 = .ok (.iload_n 3, 1) := by decide +kernel
theorem dd_Mo_rank_5 : decode cc_Mo_rank 5 = .ok (.iload_n 1, 1) := by decide +kernel
theorem dd_Mo_rank_6 : decode cc_Mo_rank 6 = .ok (.if_icmp .ge 39, 3) := by decide +kernel
theorem dd_Mo_rank_9 : decode cc_Mo_rank 9 = .ok (.aload_n 0, 1) := by decide +kernel
theorem dd_Mo_rank_10 : decode cc_Mo_rank 10 = .ok (.getfield 56, 3) := by decide +kernel
theorem dd_Mo_rank_13 : decode cc_Mo_rank 13 = .ok (.iload_n 3, 1) := by decide +kernel
theorem dd_Mo_rank_14 : decode cc_Mo_rank 14 = .ok (.baload, 1) := by decide +kernel
theorem dd_Mo_rank_15 : decode cc_Mo_rank 15 = .ok (.ifCond .eq 22, 3) := by decide +kernel
theorem dd_Mo_rank_18 : decode cc_Mo_rank 18 = .ok (.aload_n 0, 1) := by decide +kernel
theorem dd_Mo_rank_19 : decode cc_Mo_rank 19 = .ok (.getfield 50, 3) := by decide +kernel
theorem dd_Mo_rank_22 : decode cc_Mo_rank 22 = .ok (.iload_n 3, 1) := by decide +kernel
theorem dd_Mo_rank_23 : decode cc_Mo_rank 23 = .ok (.laload, 1) := by decide +kernel
theorem dd_Mo_rank_24 : decode cc_Mo_rank 24 = .ok (.ldc2_w 129, 3) := by decide +kernel
theorem dd_Mo_rank_27 : decode cc_Mo_rank 27 = .ok (.lcmp, 1) := by decide +kernel
theorem dd_Mo_rank_28 : decode cc_Mo_rank 28 = .ok (.ifCond .ge 9, 3) := by decide +kernel
theorem dd_Mo_rank_31 : decode cc_Mo_rank 31 = .ok (.iload_n 2, 1) := by decide +kernel
theorem dd_Mo_rank_32 : decode cc_Mo_rank 32 = .ok (.iconst 1, 1) := by decide +kernel
theorem dd_Mo_rank_33 : decode cc_Mo_rank 33 = .ok (.iadd, 1) := by decide +kernel
theorem dd_Mo_rank_34 : decode cc_Mo_rank 34 = .ok (.goto 4, 3) := by decide +kernel
theorem dd_Mo_rank_37 : decode cc_Mo_rank 37 = .ok (.iload_n 2, 1) := by decide +kernel
theorem dd_Mo_rank_38 : decode cc_Mo_rank 38 = .ok (.istore_n 2, 1) := by decide +kernel
theorem dd_Mo_rank_39 : decode cc_Mo_rank 39 = .ok (.iinc 3 1, 3) := by decide +kernel
theorem dd_Mo_rank_42 : decode cc_Mo_rank 42 = .ok (.goto (-38), 3) := by decide +kernel
theorem dd_Mo_rank_45 : decode cc_Mo_rank 45 = .ok (.iload_n 2, 1) := by decide +kernel
theorem dd_Mo_rank_46 : decode cc_Mo_rank 46 = .ok (.ireturn, 1) := by decide +kernel
theorem dd_Mo_isOnPath_0 : decode cc_Mo_isOnPath 0 = .ok (.aload_n 0, 1) := by decide +kernel
theorem dd_Mo_isOnPath_1 : decode cc_Mo_isOnPath 1 = .ok (.getfield 56, 3) := by decide +kernel
theorem dd_Mo_isOnPath_4 : decode cc_Mo_isOnPath 4 = .ok (.iload_n 1, 1) := by decide +kernel
theorem dd_Mo_isOnPath_5 : decode cc_Mo_isOnPath 5 = .ok (.baload, 1) := by decide +kernel
theorem dd_Mo_isOnPath_6 : decode cc_Mo_isOnPath 6 = .ok (.ifCond .eq 20, 3) := by decide +kernel
theorem dd_Mo_isOnPath_9 : decode cc_Mo_isOnPath 9 = .ok (.aload_n 0, 1) := by decide +kernel
theorem dd_Mo_isOnPath_10 : decode cc_Mo_isOnPath 10 = .ok (.getfield 50, 3) := by decide +kernel
theorem dd_Mo_isOnPath_13 : decode cc_Mo_isOnPath 13 = .ok (.iload_n 1, 1) := by decide +kernel
theorem dd_Mo_isOnPath_14 : decode cc_Mo_isOnPath 14 = .ok (.laload, 1) := by decide +kernel
theorem dd_Mo_isOnPath_15 : decode cc_Mo_isOnPath 15 = .ok (.ldc2_w 129, 3) := by decide +kernel
theorem dd_Mo_isOnPath_18 : decode cc_Mo_isOnPath 18 = .ok (.lcmp, 1) := by decide +kernel
theorem dd_Mo_isOnPath_19 : decode cc_Mo_isOnPath 19 = .ok (.ifCond .ge 7, 3) := by decide +kernel
theorem dd_Mo_isOnPath_22 : decode cc_Mo_isOnPath 22 = .ok (.iconst 1, 1) := by decide +kernel
theorem dd_Mo_isOnPath_23 : decode cc_Mo_isOnPath 23 = .ok (.goto 4, 3) := by decide +kernel
theorem dd_Mo_isOnPath_26 : decode cc_Mo_isOnPath 26 = .ok (.iconst 0, 1) := by decide +kernel
theorem dd_Mo_isOnPath_27 : decode cc_Mo_isOnPath 27 = .ok (.ireturn, 1) := by decide +kernel
theorem dd_Mo_trim_0 : decode cc_Mo_trim 0 = .ok (.iload_n 1, 1) := by decide +kernel
theorem dd_Mo_trim_1 : decode cc_Mo_trim 1 = .ok (.invokestatic 81, 3) := by decide +kernel
theorem dd_Mo_trim_4 : decode cc_Mo_trim 4 = .ok (.ifCond .eq 10, 3) := by decide +kernel
theorem dd_Mo_trim_7 : decode cc_Mo_trim 7 = .ok (.iload_n 2, 1) := by decide +kernel
theorem dd_Mo_trim_8 : decode cc_Mo_trim 8 = .ok (.invokestatic 81, 3) := by decide +kernel
theorem dd_Mo_trim_11 : decode cc_Mo_trim 11 = .ok (.ifCond .ne 5, 3) := by decide +kernel
theorem dd_Mo_trim_14 : decode cc_Mo_trim 14 = .ok (.iconst (-1), 1) := by decide +kernel
theorem dd_Mo_trim_15 : decode cc_Mo_trim 15 = .ok (.ireturn, 1) := by decide +kernel
theorem dd_Mo_trim_16 : decode cc_Mo_trim 16 = .ok (.aload_n 0, 1) := by decide +kernel
theorem dd_Mo_trim_17 : decode cc_Mo_trim 17 = .ok (.iload_n 1, 1) := by decide +kernel
theorem dd_Mo_trim_18 : decode cc_Mo_trim 18 = .ok (.invokevirtual 148, 3) := by decide +kernel
theorem dd_Mo_trim_21 : decode cc_Mo_trim 21 = .ok (.aload_n 0, 1) := by decide +kernel
theorem dd_Mo_trim_22 : decode cc_Mo_trim 22 = .ok (.iload_n 1, 1) := by decide +kernel
theorem dd_Mo_trim_23 : decode cc_Mo_trim 23 = .ok (.invokevirtual 152, 3) := by decide +kernel
theorem dd_Mo_trim_26 : decode cc_Mo_trim 26 = .ok (.aload_n 0, 1) := by decide +kernel
theorem dd_Mo_trim_27 : decode cc_Mo_trim 27 = .ok (.iconst 4, 1) := by decide +kernel
theorem dd_Mo_trim_28 : decode cc_Mo_trim 28 = .ok (.aload_n 0, 1) := by decide +kernel
theorem dd_Mo_trim_29 : decode cc_Mo_trim 29 = .ok (.bipush 16, 2) := by decide +kernel
theorem dd_Mo_trim_31 : decode cc_Mo_trim 31 = .ok (.invokevirtual 155, 3) := by decide +kernel
theorem dd_Mo_trim_34 : decode cc_Mo_trim 34 = .ok (.invokevirtual 75, 3) := by decide +kernel
theorem dd_Mo_trim_37 : decode cc_Mo_trim 37 = .ok (.aload_n 0, 1) := by decide +kernel
theorem dd_Mo_trim_38 : decode cc_Mo_trim 38 = .ok (.getfield 7, 3) := by decide +kernel
theorem dd_Mo_trim_41 : decode cc_Mo_trim 41 = .ok (.iconst 4, 1) := by decide +kernel
theorem dd_Mo_trim_42 : decode cc_Mo_trim 42 = .ok (.iaload, 1) := by decide +kernel
theorem dd_Mo_trim_43 : decode cc_Mo_trim 43 = .ok (.ifCond .le 31, 3) := by decide +kernel
theorem dd_Mo_trim_46 : decode cc_Mo_trim 46 = .ok (.aload_n 0, 1) := by decide +kernel
theorem dd_Mo_trim_47 : decode cc_Mo_trim 47 = .ok (.getfield 13, 3) := by decide +kernel
theorem dd_Mo_trim_50 : decode cc_Mo_trim 50 = .ok (.iconst 4, 1) := by decide +kernel
theorem dd_Mo_trim_51 : decode cc_Mo_trim 51 = .ok (.aload_n 0, 1) := by decide +kernel
theorem dd_Mo_trim_52 : decode cc_Mo_trim 52 = .ok (.aload_n 0, 1) := by decide +kernel
theorem dd_Mo_trim_53 : decode cc_Mo_trim 53 = .ok (.getfield 13, 3) := by decide +kernel
theorem dd_Mo_trim_56 : decode cc_Mo_trim 56 = .ok (.iload_n 1, 1) := by decide +kernel
theorem dd_Mo_trim_57 : decode cc_Mo_trim 57 = .ok (.iaload, 1) := by decide +kernel
theorem dd_Mo_trim_58 : decode cc_Mo_trim 58 = .ok (.invokevirtual 155, 3) := by decide +kernel
theorem dd_Mo_trim_61 : decode cc_Mo_trim 61 = .ok (.iastore, 1) := by decide +kernel
theorem dd_Mo_trim_62 : decode cc_Mo_trim 62 = .ok (.aload_n 0, 1) := by decide +kernel
theorem dd_Mo_trim_63 : decode cc_Mo_trim 63 = .ok (.getfield 16, 3) := by decide +kernel
theorem dd_Mo_trim_66 : decode cc_Mo_trim 66 = .ok (.iconst 4, 1) := by decide +kernel
theorem dd_Mo_trim_67 : decode cc_Mo_trim 67 = .ok (.aload_n 0, 1) := by decide +kernel
theorem dd_Mo_trim_68 : decode cc_Mo_trim 68 = .ok (.getfield 16, 3) := by decide +kernel
theorem dd_Mo_trim_71 : decode cc_Mo_trim 71 = .ok (.iload_n 1, 1) := by decide +kernel
theorem dd_Mo_trim_72 : decode cc_Mo_trim 72 = .ok (.laload, 1) := by decide +kernel
theorem dd_Mo_trim_73 : decode cc_Mo_trim 73 = .ok (.lastore, 1) := by decide +kernel
theorem dd_Mo_trim_74 : decode cc_Mo_trim 74 = .ok (.bipush 65, 2) := by decide +kernel
theorem dd_Mo_trim_76 : decode cc_Mo_trim 76 = .ok (.iload_n 1, 1) := by decide +kernel
theorem dd_Mo_trim_77 : decode cc_Mo_trim 77 = .ok (.imul, 1) := by decide +kernel
theorem dd_Mo_trim_78 : decode cc_Mo_trim 78 = .ok (.istore_n 3, 1) := by decide +kernel
theorem dd_Mo_trim_79 : decode cc_Mo_trim 79 = .ok (.iload_n 3, 1) := by decide +kernel
theorem dd_Mo_trim_80 : decode cc_Mo_trim 80 = .ok (.bipush 65, 2) := by decide +kernel
theorem dd_Mo_trim_82 : decode cc_Mo_trim 82 = .ok (.iload_n 1, 1) := by decide +kernel
theorem dd_Mo_trim_83 : decode cc_Mo_trim 83 = .ok (.imul, 1) := by decide +kernel
theorem dd_Mo_trim_84 : decode cc_Mo_trim 84 = .ok (.aload_n 0, 1) := by decide +kernel
theorem dd_Mo_trim_85 : decode cc_Mo_trim 85 = .ok (.getfield 23, 3) := by decide +kernel
theorem dd_Mo_trim_88 : decode cc_Mo_trim 88 = .ok (.iload_n 1, 1) := by decide +kernel
theorem dd_Mo_trim_89 : decode cc_Mo_trim 89 = .ok (.iaload, 1) := by decide +kernel
theorem dd_Mo_trim_90 : decode cc_Mo_trim 90 = .ok (.iadd, 1) := by decide +kernel
theorem dd_Mo_trim_91 : decode cc_Mo_trim 91 = .ok (.if_icmp .ge 80, 3) := by decide +kernel
theorem dd_Mo_trim_94 : decode cc_Mo_trim 94 = .ok (.aload_n 0, 1) := by decide +kernel
theorem dd_Mo_trim_95 : decode cc_Mo_trim 95 = .ok (.aload_n 0, 1) := by decide +kernel
theorem dd_Mo_trim_96 : decode cc_Mo_trim 96 = .ok (.getfield 26, 3) := by decide +kernel
theorem dd_Mo_trim_99 : decode cc_Mo_trim 99 = .ok (.iload_n 3, 1) := by decide +kernel
theorem dd_Mo_trim_100 : decode cc_Mo_trim 100 = .ok (.iaload, 1) := by decide +kernel
theorem dd_Mo_trim_101 : decode cc_Mo_trim 101 = .ok (.invokevirtual 159, 3) := by decide +kernel
theorem dd_Mo_trim_104 : decode cc_Mo_trim 104 = .ok (.ifCond .eq 61, 3) := by decide +kernel
theorem dd_Mo_trim_107 : decode cc_Mo_trim 107 = .ok (.aload_n 0, 1) := by decide +kernel
theorem dd_Mo_trim_108 : decode cc_Mo_trim 108 = .ok (.aload_n 0, 1) := by decide +kernel
theorem dd_Mo_trim_109 : decode cc_Mo_trim 109 = .ok (.getfield 29, 3) := by decide +kernel
theorem dd_Mo_trim_112 : decode cc_Mo_trim 112 = .ok (.iload_n 3, 1) := by decide +kernel
theorem dd_Mo_trim_113 : decode cc_Mo_trim 113 = .ok (.iaload, 1) := by decide +kernel
theorem dd_Mo_trim_114 : decode cc_Mo_trim 114 = .ok (.invokevirtual 159, 3) := by decide +kernel
theorem dd_Mo_trim_117 : decode cc_Mo_trim 117 = .ok (.ifCond .eq 48, 3) := by decide +kernel
theorem dd_Mo_trim_120 : decode cc_Mo_trim 120 = .ok (.aload_n 0, 1) := by decide +kernel
theorem dd_Mo_trim_121 : decode cc_Mo_trim 121 = .ok (.iconst 4, 1) := by decide +kernel
theorem dd_Mo_trim_122 : decode cc_Mo_trim 122 = .ok (.aload_n 0, 1) := by decide +kernel
theorem dd_Mo_trim_123 : decode cc_Mo_trim 123 = .ok (.aload_n 0, 1) := by decide +kernel
theorem dd_Mo_trim_124 : decode cc_Mo_trim 124 = .ok (.getfield 26, 3) := by decide +kernel
theorem dd_Mo_trim_127 : decode cc_Mo_trim 127 = .ok (.iload_n 3, 1) := by decide +kernel
theorem dd_Mo_trim_128 : decode cc_Mo_trim 128 = .ok (.iaload, 1) := by decide +kernel
theorem dd_Mo_trim_129 : decode cc_Mo_trim 129 = .ok (.invokevirtual 155, 3) := by decide +kernel
theorem dd_Mo_trim_132 : decode cc_Mo_trim 132 = .ok (.aload_n 0, 1) := by decide +kernel
theorem dd_Mo_trim_133 : decode cc_Mo_trim 133 = .ok (.aload_n 0, 1) := by decide +kernel
theorem dd_Mo_trim_134 : decode cc_Mo_trim 134 = .ok (.getfield 29, 3) := by decide +kernel
theorem dd_Mo_trim_137 : decode cc_Mo_trim 137 = .ok (.iload_n 3, 1) := by decide +kernel
theorem dd_Mo_trim_138 : decode cc_Mo_trim 138 = .ok (.iaload, 1) := by decide +kernel
theorem dd_Mo_trim_139 : decode cc_Mo_trim 139 = .ok (.invokevirtual 155, 3) := by decide +kernel
theorem dd_Mo_trim_142 : decode cc_Mo_trim 142 = .ok (.aload_n 0, 1) := by decide +kernel
theorem dd_Mo_trim_143 : decode cc_Mo_trim 143 = .ok (.getfield 32, 3) := by decide +kernel
theorem dd_Mo_trim_146 : decode cc_Mo_trim 146 = .ok (.iload_n 3, 1) := by decide +kernel
theorem dd_Mo_trim_147 : decode cc_Mo_trim 147 = .ok (.iaload, 1) := by decide +kernel
theorem dd_Mo_trim_148 : decode cc_Mo_trim 148 = .ok (.aload_n 0, 1) := by decide +kernel
theorem dd_Mo_trim_149 : decode cc_Mo_trim 149 = .ok (.getfield 35, 3) := by decide +kernel
theorem dd_Mo_trim_152 : decode cc_Mo_trim 152 = .ok (.iload_n 3, 1) := by decide +kernel
theorem dd_Mo_trim_153 : decode cc_Mo_trim 153 = .ok (.iaload, 1) := by decide +kernel
theorem dd_Mo_trim_154 : decode cc_Mo_trim 154 = .ok (.aload_n 0, 1) := by decide +kernel
theorem dd_Mo_trim_155 : decode cc_Mo_trim 155 = .ok (.getfield 38, 3) := by decide +kernel
theorem dd_Mo_trim_158 : decode cc_Mo_trim 158 = .ok (.iload_n 3, 1) := by decide +kernel
theorem dd_Mo_trim_159 : decode cc_Mo_trim 159 = .ok (.laload, 1) := by decide +kernel
theorem dd_Mo_trim_160 : decode cc_Mo_trim 160 = .ok (.invokevirtual 99, 3) := by decide +kernel
theorem dd_Mo_trim_163 : decode cc_Mo_trim 163 = .ok (.istore 4, 2) := by decide +kernel
theorem dd_Mo_trim_165 : decode cc_Mo_trim 165 = .ok (.iinc 3 1, 3) := by decide +kernel
theorem dd_Mo_trim_168 : decode cc_Mo_trim 168 = .ok (.goto (-89), 3) := by decide +kernel
theorem dd_Mo_trim_171 : decode cc_Mo_trim 171 = .ok (.iconst 0, 1) := by decide +kernel
theorem dd_Mo_trim_172 : decode cc_Mo_trim 172 = .ok (.istore_n 3, 1) := by decide +kernel
theorem dd_Mo_trim_173 : decode cc_Mo_trim 173 = .ok (.iload_n 3, 1) := by decide +kernel
theorem dd_Mo_trim_174 : decode cc_Mo_trim 174 = .ok (.aload_n 0, 1) := by decide +kernel
theorem dd_Mo_trim_175 : decode cc_Mo_trim 175 = .ok (.getfield 7, 3) := by decide +kernel
theorem dd_Mo_trim_178 : decode cc_Mo_trim 178 = .ok (.iload_n 1, 1) := by decide +kernel
theorem dd_Mo_trim_179 : decode cc_Mo_trim 179 = .ok (.iaload, 1) := by decide +kernel
theorem dd_Mo_trim_180 : decode cc_Mo_trim 180 = .ok (.if_icmp .ge 41, 3) := by decide +kernel
theorem dd_Mo_trim_183 : decode cc_Mo_trim 183 = .ok (.aload_n 0, 1) := by decide +kernel
theorem dd_Mo_trim_184 : decode cc_Mo_trim 184 = .ok (.iload_n 3, 1) := by decide +kernel
theorem dd_Mo_trim_185 : decode cc_Mo_trim 185 = .ok (.invokevirtual 159, 3) := by decide +kernel
theorem dd_Mo_trim_188 : decode cc_Mo_trim 188 = .ok (.ifCond .eq 27, 3) := by decide +kernel
theorem dd_Mo_trim_191 : decode cc_Mo_trim 191 = .ok (.aload_n 0, 1) := by decide +kernel
theorem dd_Mo_trim_192 : decode cc_Mo_trim 192 = .ok (.getfield 20, 3) := by decide +kernel
theorem dd_Mo_trim_195 : decode cc_Mo_trim 195 = .ok (.bipush 64, 2) := by decide +kernel
theorem dd_Mo_trim_197 : decode cc_Mo_trim 197 = .ok (.aload_n 0, 1) := by decide +kernel
theorem dd_Mo_trim_198 : decode cc_Mo_trim 198 = .ok (.iload_n 3, 1) := by decide +kernel
theorem dd_Mo_trim_199 : decode cc_Mo_trim 199 = .ok (.invokevirtual 155, 3) := by decide +kernel
theorem dd_Mo_trim_202 : decode cc_Mo_trim 202 = .ok (.iadd, 1) := by decide +kernel
theorem dd_Mo_trim_203 : decode cc_Mo_trim 203 = .ok (.aload_n 0, 1) := by decide +kernel
theorem dd_Mo_trim_204 : decode cc_Mo_trim 204 = .ok (.getfield 20, 3) := by decide +kernel
theorem dd_Mo_trim_207 : decode cc_Mo_trim 207 = .ok (.bipush 16, 2) := by decide +kernel
theorem dd_Mo_trim_209 : decode cc_Mo_trim 209 = .ok (.iload_n 1, 1) := by decide +kernel
theorem dd_Mo_trim_210 : decode cc_Mo_trim 210 = .ok (.imul, 1) := by decide +kernel
theorem dd_Mo_trim_211 : decode cc_Mo_trim 211 = .ok (.iload_n 3, 1) := by decide +kernel
theorem dd_Mo_trim_212 : decode cc_Mo_trim 212 = .ok (.iadd, 1) := by decide +kernel
theorem dd_Mo_trim_213 : decode cc_Mo_trim 213 = .ok (.laload, 1) := by decide +kernel
theorem dd_Mo_trim_214 : decode cc_Mo_trim 214 = .ok (.lastore, 1) := by decide +kernel
theorem dd_Mo_trim_215 : decode cc_Mo_trim 215 = .ok (.iinc 3 1, 3) := by decide +kernel
theorem dd_Mo_trim_218 : decode cc_Mo_trim 218 = .ok (.goto (-45), 3) := by decide +kernel
theorem dd_Mo_trim_221 : decode cc_Mo_trim 221 = .ok (.aload_n 0, 1) := by decide +kernel
theorem dd_Mo_trim_222 : decode cc_Mo_trim 222 = .ok (.iload_n 2, 1) := by decide +kernel
theorem dd_Mo_trim_223 : decode cc_Mo_trim 223 = .ok (.invokevirtual 126, 3) := by decide +kernel
theorem dd_Mo_trim_226 : decode cc_Mo_trim 226 = .ok (.istore_n 3, 1) := by decide +kernel
theorem dd_Mo_trim_227 : decode cc_Mo_trim 227 = .ok (.aload_n 0, 1) := by decide +kernel
theorem dd_Mo_trim_228 : decode cc_Mo_trim 228 = .ok (.getfield 7, 3) := by decide +kernel
theorem dd_Mo_trim_231 : decode cc_Mo_trim 231 = .ok (.iload_n 2, 1) := by decide +kernel
theorem dd_Mo_trim_232 : decode cc_Mo_trim 232 = .ok (.iaload, 1) := by decide +kernel
theorem dd_Mo_trim_233 : decode cc_Mo_trim 233 = .ok (.ireturn, 1) := by decide +kernel
/-! THE BEST PATH, as the reference walks it -/
theorem on_src (a : am_T) : ∀ k q c, ls_D ((am_ar a).map on_x) (on_v a (am_n a)) k q = some c → on_v a (am_n a) q = some c ∨ ∃ x ∈ am_ar a, x.1 / 1024 = q ∧ ∃ j d, ls_D ((am_ar a).map on_x) (on_v a (am_n a)) j (x.1 % 16) = some d ∧ d + (x.2 * 32 + 1) = c
  | 0, q, c, h => Or.inl h
  | k + 1, q, c, h => by
    have h : ls_J ((am_ar a).map on_x) (ls_D ((am_ar a).map on_x) (on_v a (am_n a)) k) q = some c := h
    rcases ls_J_or ((am_ar a).map on_x) (ls_D ((am_ar a).map on_x) (on_v a (am_n a)) k) q with h1 | ⟨e, he, hq, h1⟩
    · rw [h1] at h
      exact on_src a k q c h
    · rw [h1] at h
      obtain ⟨x, hx, rfl⟩ := List.mem_map.mp he
      obtain ⟨d, hd, hdc⟩ := am_ad_some h
      exact Or.inr ⟨x, hx, hq, k, d, hd, hdc⟩
theorem on_tight {a : am_T} (h : am_ok a) {q c : Nat} (hc : on_of a q = some c) (h0 : 0 < c % 32) : ∃ i, (am_ar a).findIdx? (on_p (on_of a) q) = some i := by
  have hf := on_of_fix h
  have hc2 := hc
  rw [mn_on h] at hc2
  have key : ∃ x ∈ am_ar a, on_p (on_of a) q x = true := by
    rcases on_src a 16 q c hc2 with h1 | ⟨x, hx, hq, j, d, hd, hdc⟩
    · exfalso
      unfold on_v at h1
      split at h1
      · cases he : am_en a q with
        | none => rw [he] at h1; cases h1
        | some e =>
          rw [he] at h1
          have h1 : some (e * 32) = some c := h1
          cases h1
          omega
      · cases h1
    · obtain ⟨d2, hd2, hl⟩ := ls_D_ge hf.1 hf.2.1 j (x.1 % 16) d hd
      have h2 : ls_le (on_of a (x.1 / 1024)) (ls_ad (on_of a (x.1 % 16)) (x.2 * 32 + 1)) := hf.2.1 (on_x x) (List.mem_map_of_mem hx)
      obtain ⟨c2, hc3, hl2⟩ := h2 (d2 + (x.2 * 32 + 1)) (by rw [hd2]; rfl)
      rw [hq, hc] at hc3
      cases hc3
      refine ⟨x, hx, ?_⟩
      unfold on_p
      rw [decide_eq_true hq, Bool.true_and]
      refine decide_eq_true ?_
      rw [hd2, hc]
      show some (d2 + (x.2 * 32 + 1)) = some c
      congr 1
      omega
  rcases hi : (am_ar a).findIdx? (on_p (on_of a) q) with _ | i
  · obtain ⟨x, hx, hp⟩ := key
    have := List.findIdx?_eq_none_iff.mp hi x hx
    rw [hp] at this
    cases this
  · exact ⟨i, rfl⟩
theorem mo_is_q {F F2 : mo_F} {L L2 : mo_L} {s : Nat} {a : am_T} (hF : ∀ k, k < 54 → F2 k = F k) (hL : ∀ k, k < 54 → L2 k = L k) (h : mo_is F L s a) : mo_is F2 L2 s a := by
  unfold mo_is mo_a at h ⊢
  rw [hF 44 (by decide), hF 45 (by decide), hF 48 (by decide), hF 49 (by decide), hF 50 (by decide), hF 51 (by decide), hF 52 (by decide), hL 46 (by decide), hL 47 (by decide), hL 53 (by decide)]
  exact h
theorem rs_P_ad {F F2 : mo_F} {L L2 : mo_L} {S S2 : Nat → Int32} {P : List (Nat × Nat)} {x : Nat × Nat} (h54 : F2 54 = upd (upd (upd (upd (F 54) (5 * P.length) (nI (x.1 / 1024))) (5 * P.length + 1) (nI (x.1 % 16))) (5 * P.length + 2) (nI (x.1 / 128 % 8))) (5 * P.length + 3) (nI (x.1 / 16 % 8))) (hL : L2 55 = vp_updL (L 55) P.length (lN x.2)) (hS : S2 10 = nI (P.length + 1)) (h : rs_P F L S P) : rs_P F2 L2 S2 (P ++ [x]) := by
  refine ⟨by rw [hS, List.length_append]; rfl, fun j y hy => ?_⟩
  rw [List.getElem?_append] at hy
  by_cases hj : j < P.length
  · rw [if_pos hj] at hy
    rw [h54, hL]
    rw [pk_un (by omega), pk_un (by omega), pk_un (by omega), pk_un (by omega), pk_un (by omega), pk_un (by omega), pk_un (by omega), pk_un (by omega), pk_un (by omega), pk_un (by omega), pk_un (by omega), pk_un (by omega), pk_un (by omega), pk_un (by omega), pk_un (by omega), pk_un (by omega), pk_uLn (by omega)]
    exact h.2 j y hy
  · rw [if_neg hj] at hy
    have hj2 : j - P.length < 1 := (List.getElem?_eq_some_iff.mp hy).1
    rw [show j - P.length = 0 by omega] at hy
    cases hy
    rw [show j = P.length by omega, h54, hL, pk_uLs]
    refine ⟨?_, ?_, ?_, ?_, rfl⟩
    · rw [pk_un (by omega), pk_un (by omega), pk_un (by omega), pk_us]
    · rw [pk_un (by omega), pk_un (by omega), pk_us]
    · rw [pk_un (by omega), pk_us]
    · rw [pk_us]
theorem mf_ne {x : Nat} (h : x < 4000000000000000000) : ¬ lN x = (4000000000000000000 : Int64) := by
  show ¬ lN x = lN 4000000000000000000
  rw [pk_lEQ (by omega) (by decide)]
  omega
set_option maxRecDepth 100000 in
set_option maxHeartbeats 4000000 in
theorem ct_Mo_best (l : Launch) (D : va_G) (dA : Nat → ClassId) (ad : Nat → Nat) (h : Nat → va_E) (F : mo_F) (L : mo_L) (S : Nat → Int32) {σ : sg} (hr : rs F L S σ) (hσ : sg_ok σ) (s : Int32) : gx_Ct l D dA yy_Mo_best cc_Mo_best 6 (some .long) 1 0 0 [.ref (ad 43), .int s] (gx_w ad (mo_h dA ad h F L S)) (fun v w => ∃ F2 L2 S2, w = (gx_w ad (mo_h dA ad h F2 L2 S2)) ∧ rs F2 L2 S2 (o_best σ s).2 ∧ v = some (.long (o_best σ s).1)) := by
  refine gx_of (by decide) (Nat.le_of_ble_eq_true rfl) (fun K C _ _ => ?_)
  have hM := hr.1
  have hP := hr.2.1
  have hX := hr.2.2
  refine gx_iload_n C 1 dd_Mo_best_0 (kk := ?_)
  refine gx_callS C (ct_Mo_isSlot (gx_l K) D dA _ s) me_Mo_isSlot ml_Mo_81 ms_Mo_isSlot dd_Mo_best_1 (kk := fun v w hq => ?_)
  obtain ⟨rfl, rfl⟩ := hq
  rcases hi : ix 4 s with _ | i
  · refine gx_if_eq C 16 dd_Mo_best_4 (fun h4 => ?_) (fun h4 => absurd rfl h4)
    refine gx_ldc2 C dd_Mo_best_16 kc_Mo_79 (kk := ?_)
    refine gx_lret C dd_Mo_best_19 ?_
    have hsp : o_best σ s = (-1, σ) := by
      unfold o_best
      simp only [hi]
    rw [hsp]
    exact ⟨F, L, S, rfl, hr, rfl⟩
  · obtain ⟨hi4, rfl⟩ := ix_of (by decide) hi
    refine gx_if_eq C 16 dd_Mo_best_4 (fun h4 => absurd (show true = false from fb_0.mp h4) (by decide)) (fun h4 => ?_)
    have hok := hσ.1 i hi4
    have hn16 := hok.1.1
    have hl64 := hok.1.2.1
    have hsq0 := (hM i hi4).2.1
    rcases hst : am_st (σ.1 i) with _ | xa
    · rw [hst] at hsq0
      refine gx_aload_n C 0 dd_Mo_best_7 (kk := ?_)
      refine mo_get C fd_Mo_13 dd_Mo_best_8 (kk := ?_)
      refine gx_iload_n C 1 dd_Mo_best_11 (kk := ?_)
      refine mo_l45 C dd_Mo_best_12 (by omega) (kk := ?_)
      refine gx_topi _ hsq0.1 ?_
      refine gx_if_ge C 20 dd_Mo_best_13 (fun h13 => absurd h13 (by decide)) (fun h13 => ?_)
      refine gx_ldc2 C dd_Mo_best_16 kc_Mo_79 (kk := ?_)
      refine gx_lret C dd_Mo_best_19 ?_
      have hsp : o_best σ (nI i) = (-1, σ) := by
        unfold o_best
        simp only [hi, hst]
      rw [hsp]
      exact ⟨F, L, S, rfl, hr, rfl⟩
    · rw [hst] at hsq0
      have hxab := hok.1.2.2.2.2 xa hst
      refine gx_aload_n C 0 dd_Mo_best_7 (kk := ?_)
      refine mo_get C fd_Mo_13 dd_Mo_best_8 (kk := ?_)
      refine gx_iload_n C 1 dd_Mo_best_11 (kk := ?_)
      refine mo_l45 C dd_Mo_best_12 (by omega) (kk := ?_)
      refine gx_topi _ hsq0.1 ?_
      refine gx_if_ge C 20 dd_Mo_best_13 (fun h13 => ?_) (fun h13 => absurd (nI_pos' (by omega)) h13)
      refine gx_aload_n C 0 dd_Mo_best_20 (kk := ?_)
      refine gx_iload_n C 1 dd_Mo_best_21 (kk := ?_)
      refine gx_callV C (ct_Mo_findOnward (gx_l K) D dA ad h F L S (ia := i) hi4 (hM i hi4) (hσ.1 i hi4)) me_Mo_findOnward ml_Mo_148 mn_Mo_findOnward _ (gx_w_at (by decide) mo_h_43) rfl dd_Mo_best_22 (kk := fun v w hq => ?_)
      obtain ⟨rfl, F2, L2, rfl, hF2, hL2, hmn2⟩ := hq
      have hw2 : mo_w F L F2 L2 := mo_w_k (fun k hk => hF2 k (by omega)) (fun k hk => hL2 k (by omega))
      have hsq2 := (mo_w_is hw2 hi4 (hM i hi4)).2.1
      rw [hst] at hsq2
      refine gx_aload_n C 0 dd_Mo_best_25 (kk := ?_)
      refine mo_get C fd_Mo_13 dd_Mo_best_26 (kk := ?_)
      refine gx_iload_n C 1 dd_Mo_best_29 (kk := ?_)
      refine mo_l45 C dd_Mo_best_30 (by omega) (kk := ?_)
      refine gx_topi _ hsq2.1 ?_
      refine gx_istore_n C _ dd_Mo_best_31 (kk := ?_)
      have hls := (hmn2 xa.1 hxab.1).1
      rcases hc0 : (on_of (σ.1 i)) xa.1 with _ | c0
      · rw [hc0] at hls
        refine gx_aload_n C 1 dd_Mo_best_32 (kk := ?_)
        refine mo_get C fd_Mo_50 dd_Mo_best_33 (kk := ?_)
        refine gx_iload_n C 0 dd_Mo_best_36 (kk := ?_)
        refine mo_l57 C dd_Mo_best_37 (by omega) (kk := ?_)
        refine gx_topl (4000000000000000000) hls ?_
        refine gx_ldc2 C dd_Mo_best_38 kc_Mo_129 (kk := ?_)
        refine gx_lcmp C dd_Mo_best_41 (kk := ?_)
        refine gx_if_ne C 49 dd_Mo_best_42 (fun h42 => absurd (by decide) h42) (fun h42 => ?_)
        refine gx_ldc2 C dd_Mo_best_45 kc_Mo_79 (kk := ?_)
        refine gx_lret C dd_Mo_best_48 ?_
        have hsp : o_best σ (nI i) = (-1, σ) := by
          unfold o_best
          simp only [hi, hst, hc0]
        rw [hsp]
        exact ⟨_, _, _, rfl, mo_w_rs hw2 rfl rfl hr, rfl⟩
      · rw [hc0] at hls
        have hcb0 := ((hmn2 xa.1 hxab.1).2 c0 hc0).2
        have hc015 := on_15 hok (on_of_fix hok) hc0
        refine gx_aload_n C 1 dd_Mo_best_32 (kk := ?_)
        refine mo_get C fd_Mo_50 dd_Mo_best_33 (kk := ?_)
        refine gx_iload_n C 0 dd_Mo_best_36 (kk := ?_)
        refine mo_l57 C dd_Mo_best_37 (by omega) (kk := ?_)
        refine gx_topl (lN (c0 / 32)) hls ?_
        refine gx_ldc2 C dd_Mo_best_38 kc_Mo_129 (kk := ?_)
        refine gx_lcmp C dd_Mo_best_41 (kk := ?_)
        refine gx_if_ne C 49 dd_Mo_best_42 (fun h42 => ?_) (fun h42 => absurd (lc_eq.mp h42) (mf_ne (by omega)))
        refine gx_aload_n C 1 dd_Mo_best_49 (kk := ?_)
        refine mo_get C fd_Mo_16 dd_Mo_best_50 (kk := ?_)
        refine gx_iload_n C 2 dd_Mo_best_53 (kk := ?_)
        refine mo_l46 C dd_Mo_best_54 (by omega) (kk := ?_)
        refine gx_topl _ hsq2.2 ?_
        refine gx_aload_n C 1 dd_Mo_best_55 (kk := ?_)
        refine mo_get C fd_Mo_50 dd_Mo_best_56 (kk := ?_)
        refine gx_iload_n C 0 dd_Mo_best_59 (kk := ?_)
        refine mo_l57 C dd_Mo_best_60 (by omega) (kk := ?_)
        refine gx_topl (lN (c0 / 32)) hls ?_
        refine gx_ladd C dd_Mo_best_61 (kk := ?_)
        refine gx_topl _ (lN_add _ _) ?_
        refine gx_lstore_n C _ dd_Mo_best_62 (kk := ?_)
        refine gx_aload_n C 2 dd_Mo_best_63 (kk := ?_)
        refine gx_iconst (v := nI 0) C dd_Mo_best_64 (kk := ?_)
        refine mo_put_10 C fw_Mo_177 dd_Mo_best_65 (kk := fun S65 hS65 => ?_)
        refine gx_loc [1, 0, 2, 3] ?_
        have main : ∀ m q cq P1 F1 L1 S1, q < 16 → (on_of (σ.1 i)) q = some cq → cq % 32 = m → P1.length + m ≤ 16 → on_path (am_ar (σ.1 i)) (on_of (σ.1 i)) (c0 % 32) xa.1 = P1 ++ on_path (am_ar (σ.1 i)) (on_of (σ.1 i)) m q → rs_P F1 L1 S1 P1 → (∀ k, k ≠ 54 → F1 k = F2 k) → (∀ k, k ≠ 55 → L1 k = L2 k) → (∀ k, k ≠ 10 → S1 k = S k) → gx_G K D 6 0 0 68 [(2, .int (nI q)), (3, .long (lN (xa.2 + c0 / 32))), (0, .ref (ad 43)), (1, .int (nI i))] [] (gx_w ad (mo_h dA ad h F1 L1 S1)) (gx_Z K D dA 0 0 (fun v w => ∃ F2 L2 S2, w = (gx_w ad (mo_h dA ad h F2 L2 S2)) ∧ rs F2 L2 S2 (o_best σ (nI i)).2 ∧ v = some (.long (o_best σ (nI i)).1))) := by
          intro m
          induction m with
          | zero =>
            intro q cq P1 F1 L1 S1 hq16 hcq hcm hPl hE hP1 hF1 hL1 hS1
            have hmn1 : mn_ok F1 L1 (σ.1 i) := mn_ok_k (hF1 58 (by decide)) (hL1 57 (by decide)) hmn2
            have hcqb := (hmn1 q (by omega)).2 cq hcq
            have hc15 := on_15 hok (on_of_fix hok) hcq
            have hlq := (hmn1 q (by omega)).1
            rw [hcq] at hlq
            refine gx_aload_n C 2 dd_Mo_best_68 (kk := ?_)
            refine mo_get C fd_Mo_53 dd_Mo_best_69 (kk := ?_)
            refine gx_iload_n C 0 dd_Mo_best_72 (kk := ?_)
            refine mo_l58 C dd_Mo_best_73 (by omega) (kk := ?_)
            refine gx_topi (nI (cq % 32)) ((hmn1 q (by omega)).2 cq hcq).1 ?_
            refine gx_if_le C 281 dd_Mo_best_74 (fun h74 => ?_) (fun h74 => absurd (show nI (cq % 32) ≤ 0 by rw [show cq % 32 = 0 by omega]; decide) h74)
            refine gx_lload_n C 1 dd_Mo_best_281 (kk := ?_)
            refine gx_lret C dd_Mo_best_282 ?_
            rw [show on_path (am_ar (σ.1 i)) (on_of (σ.1 i)) 0 q = [] from rfl, List.append_nil] at hE
            have hsp : o_best σ (nI i) = (lN (xa.2 + c0 / 32), (σ.1, P1, σ.2.2)) := by
              unfold o_best
              simp only [hi, hst, hc0]
              rw [show min (c0 % 32) 16 = c0 % 32 by omega, hE]
            rw [hsp]
            exact ⟨F1, L1, S1, rfl, ⟨fun t ht => mo_is_q (fun k hk => (hF1 k (by omega)).trans (hF2 k (by omega))) (fun k hk => (hL1 k (by omega)).trans (hL2 k (by omega))) (hM t ht), hP1, rs_X_t ((hF1 56 (by decide)).trans (hF2 56 (by decide))) (hS1 14 (by decide)) hX⟩, rfl⟩
          | succ m ih =>
            intro q cq P1 F1 L1 S1 hq16 hcq hcm hPl hE hP1 hF1 hL1 hS1
            have hmn1 : mn_ok F1 L1 (σ.1 i) := mn_ok_k (hF1 58 (by decide)) (hL1 57 (by decide)) hmn2
            have hcqb := (hmn1 q (by omega)).2 cq hcq
            have hc15 := on_15 hok (on_of_fix hok) hcq
            have hlq := (hmn1 q (by omega)).1
            rw [hcq] at hlq
            refine gx_aload_n C 2 dd_Mo_best_68 (kk := ?_)
            refine mo_get C fd_Mo_53 dd_Mo_best_69 (kk := ?_)
            refine gx_iload_n C 0 dd_Mo_best_72 (kk := ?_)
            refine mo_l58 C dd_Mo_best_73 (by omega) (kk := ?_)
            refine gx_topi (nI (cq % 32)) ((hmn1 q (by omega)).2 cq hcq).1 ?_
            refine gx_if_le C 281 dd_Mo_best_74 (fun h74 => absurd h74 (by rw [show (0 : Int32) = nI 0 from rfl, nI_leI (by omega) (by decide)]; omega)) (fun h74 => ?_)
            refine gx_bipush (v := nI 65) C dd_Mo_best_77 (kk := ?_)
            refine gx_iload_n C 3 dd_Mo_best_79 (kk := ?_)
            refine gx_imul C dd_Mo_best_80 (kk := ?_)
            refine gx_topi _ (pk_mul _ _) ?_
            refine gx_istore C _ dd_Mo_best_81 (kk := ?_)
            obtain ⟨idx, hidx⟩ := on_tight hok hcq (by omega)
            have hil := (List.findIdx?_eq_some_iff_getElem.mp hidx).1
            have look : ∀ m2 j, j + m2 = idx → gx_G K D 6 0 0 83 [(5, .int (nI (65 * i + j))), (2, .int (nI q)), (3, .long (lN (xa.2 + c0 / 32))), (0, .ref (ad 43)), (1, .int (nI i))] [] (gx_w ad (mo_h dA ad h F1 L1 S1)) (gx_Z K D dA 0 0 (fun v w => ∃ F2 L2 S2, w = (gx_w ad (mo_h dA ad h F2 L2 S2)) ∧ rs F2 L2 S2 (o_best σ (nI i)).2 ∧ v = some (.long (o_best σ (nI i)).1))) := by
              intro m2
              induction m2 with
              | zero =>
                intro j hj
                obtain ⟨x, hx, hxq, hxt⟩ := on_fx hidx
                rw [hcq] at hxt
                obtain ⟨d, hto, hdc⟩ := am_ad_some hxt
                have hjl := (List.getElem?_eq_some_iff.mp hx).1
                obtain rfl : j = idx := by omega
                have hxa := (mo_is_q (fun k hk => (hF1 k (by omega)).trans (hF2 k (by omega))) (fun k hk => (hL1 k (by omega)).trans (hL2 k (by omega))) (hM i hi4)).2.2.2.2.1 j x hx
                have hxb := hok.1.2.2.1 x (List.mem_of_getElem? hx)
                have ht0 := (hmn1 (x.1 % 16) (by omega)).1
                rw [hto] at ht0
                have hdd := (hmn1 (x.1 % 16) (by omega)).2 d hto
                have hft := hdd.1
                have hd15 := on_15 hok (on_of_fix hok) hto
                have hdb := hdd.2
                refine gx_aload_n C 3 dd_Mo_best_83 (kk := ?_)
                refine mo_get C fd_Mo_26 dd_Mo_best_84 (kk := ?_)
                refine gx_iload C 0 dd_Mo_best_87 (kk := ?_)
                refine mo_l49 C dd_Mo_best_89 (by omega) (kk := ?_)
                refine gx_topi _ hxa.1 ?_
                refine gx_iload_n C 1 dd_Mo_best_90 (kk := ?_)
                refine gx_icmp_ne C 166 dd_Mo_best_91 (fun h91 => absurd (congrArg nI hxq) h91) (fun h91 => ?_)
                refine gx_aload_n C 3 dd_Mo_best_94 (kk := ?_)
                refine mo_get C fd_Mo_50 dd_Mo_best_95 (kk := ?_)
                refine gx_aload_n C 3 dd_Mo_best_98 (kk := ?_)
                refine mo_get C fd_Mo_29 dd_Mo_best_99 (kk := ?_)
                refine gx_iload C 0 dd_Mo_best_102 (kk := ?_)
                refine mo_l50 C dd_Mo_best_104 (by omega) (kk := ?_)
                refine gx_topi _ hxa.2.1 ?_
                refine mo_l57 C dd_Mo_best_105 (by omega) (kk := ?_)
                refine gx_topl (lN (d / 32)) ht0 ?_
                refine gx_ldc2 C dd_Mo_best_106 kc_Mo_129 (kk := ?_)
                refine gx_lcmp C dd_Mo_best_109 (kk := ?_)
                refine gx_if_eq C 166 dd_Mo_best_110 (fun h110 => absurd (lc_eq.mp h110) (mf_ne (by omega))) (fun h110 => ?_)
                refine gx_aload_n C 3 dd_Mo_best_113 (kk := ?_)
                refine mo_get C fd_Mo_50 dd_Mo_best_114 (kk := ?_)
                refine gx_aload_n C 3 dd_Mo_best_117 (kk := ?_)
                refine mo_get C fd_Mo_29 dd_Mo_best_118 (kk := ?_)
                refine gx_iload C 0 dd_Mo_best_121 (kk := ?_)
                refine mo_l50 C dd_Mo_best_123 (by omega) (kk := ?_)
                refine gx_topi _ hxa.2.1 ?_
                refine mo_l57 C dd_Mo_best_124 (by omega) (kk := ?_)
                refine gx_topl (lN (d / 32)) ht0 ?_
                refine gx_aload_n C 3 dd_Mo_best_125 (kk := ?_)
                refine mo_get C fd_Mo_38 dd_Mo_best_126 (kk := ?_)
                refine gx_iload C 0 dd_Mo_best_129 (kk := ?_)
                refine mo_l53 C dd_Mo_best_131 (by omega) (kk := ?_)
                refine gx_topl _ hxa.2.2.2.2 ?_
                refine gx_ladd C dd_Mo_best_132 (kk := ?_)
                refine gx_topl _ (lN_add _ _) ?_
                refine gx_aload_n C 3 dd_Mo_best_133 (kk := ?_)
                refine mo_get C fd_Mo_50 dd_Mo_best_134 (kk := ?_)
                refine gx_iload_n C 1 dd_Mo_best_137 (kk := ?_)
                refine mo_l57 C dd_Mo_best_138 (by omega) (kk := ?_)
                refine gx_topl (lN (cq / 32)) hlq ?_
                refine gx_lcmp C dd_Mo_best_139 (kk := ?_)
                refine gx_if_ne C 166 dd_Mo_best_140 (fun h140 => absurd (lc_eq.mpr (congrArg lN (show d / 32 + x.2 = cq / 32 by omega))) h140) (fun h140 => ?_)
                refine gx_aload_n C 3 dd_Mo_best_143 (kk := ?_)
                refine mo_get C fd_Mo_53 dd_Mo_best_144 (kk := ?_)
                refine gx_aload_n C 3 dd_Mo_best_147 (kk := ?_)
                refine mo_get C fd_Mo_29 dd_Mo_best_148 (kk := ?_)
                refine gx_iload C 0 dd_Mo_best_151 (kk := ?_)
                refine mo_l50 C dd_Mo_best_153 (by omega) (kk := ?_)
                refine gx_topi _ hxa.2.1 ?_
                refine mo_l58 C dd_Mo_best_154 (by omega) (kk := ?_)
                refine gx_topi (nI (d % 32)) hft ?_
                refine gx_iconst (v := nI 1) C dd_Mo_best_155 (kk := ?_)
                refine gx_iadd C dd_Mo_best_156 (kk := ?_)
                refine gx_topi _ (nI_add _ _) ?_
                refine gx_aload_n C 3 dd_Mo_best_157 (kk := ?_)
                refine mo_get C fd_Mo_53 dd_Mo_best_158 (kk := ?_)
                refine gx_iload_n C 1 dd_Mo_best_161 (kk := ?_)
                refine mo_l58 C dd_Mo_best_162 (by omega) (kk := ?_)
                refine gx_topi (nI (cq % 32)) ((hmn1 q (by omega)).2 cq hcq).1 ?_
                refine gx_icmp_eq C 172 dd_Mo_best_163 (fun h163 => ?_) (fun h163 => absurd (congrArg nI (show d % 32 + 1 = cq % 32 by omega)) h163)
                refine gx_aload_n C 3 dd_Mo_best_172 (kk := ?_)
                refine mo_get C fd_Mo_41 dd_Mo_best_173 (kk := ?_)
                refine gx_iconst (v := nI 5) C dd_Mo_best_176 (kk := ?_)
                refine gx_aload_n C 3 dd_Mo_best_177 (kk := ?_)
                refine mo_get C fd_Mo_177 dd_Mo_best_178 (kk := ?_)
                refine gx_topi _ hP1.1 ?_
                refine gx_imul C dd_Mo_best_181 (kk := ?_)
                refine gx_topi _ (pk_mul _ _) ?_
                refine gx_iload_n C 1 dd_Mo_best_182 (kk := ?_)
                refine mo_s54 C dd_Mo_best_183 (by omega) (kk := fun F183 hF183 => ?_)
                refine gx_aload_n C 3 dd_Mo_best_184 (kk := ?_)
                refine mo_get C fd_Mo_41 dd_Mo_best_185 (kk := ?_)
                refine gx_iconst (v := nI 5) C dd_Mo_best_188 (kk := ?_)
                refine gx_aload_n C 3 dd_Mo_best_189 (kk := ?_)
                refine mo_get C fd_Mo_177 dd_Mo_best_190 (kk := ?_)
                refine gx_topi _ hP1.1 ?_
                refine gx_imul C dd_Mo_best_193 (kk := ?_)
                refine gx_topi _ (pk_mul _ _) ?_
                refine gx_iconst (v := nI 1) C dd_Mo_best_194 (kk := ?_)
                refine gx_iadd C dd_Mo_best_195 (kk := ?_)
                refine gx_topi _ (nI_add _ _) ?_
                refine gx_aload_n C 3 dd_Mo_best_196 (kk := ?_)
                refine mo_get C fd_Mo_29 dd_Mo_best_197 (kk := ?_)
                refine gx_iload C 0 dd_Mo_best_200 (kk := ?_)
                refine mo_l50 C dd_Mo_best_202 (by omega) (kk := ?_)
                refine gx_topi (nI (x.1 % 16)) (by rw [hF183, gm_un (by decide)]; exact hxa.2.1) ?_
                refine mo_s54 C dd_Mo_best_203 (by omega) (kk := fun F203 hF203 => ?_)
                refine gx_aload_n C 3 dd_Mo_best_204 (kk := ?_)
                refine mo_get C fd_Mo_41 dd_Mo_best_205 (kk := ?_)
                refine gx_iconst (v := nI 5) C dd_Mo_best_208 (kk := ?_)
                refine gx_aload_n C 3 dd_Mo_best_209 (kk := ?_)
                refine mo_get C fd_Mo_177 dd_Mo_best_210 (kk := ?_)
                refine gx_topi _ hP1.1 ?_
                refine gx_imul C dd_Mo_best_213 (kk := ?_)
                refine gx_topi _ (pk_mul _ _) ?_
                refine gx_iconst (v := nI 2) C dd_Mo_best_214 (kk := ?_)
                refine gx_iadd C dd_Mo_best_215 (kk := ?_)
                refine gx_topi _ (nI_add _ _) ?_
                refine gx_aload_n C 3 dd_Mo_best_216 (kk := ?_)
                refine mo_get C fd_Mo_32 dd_Mo_best_217 (kk := ?_)
                refine gx_iload C 0 dd_Mo_best_220 (kk := ?_)
                refine mo_l51 C dd_Mo_best_222 (by omega) (kk := ?_)
                refine gx_topi (nI (x.1 / 128 % 8)) (by rw [hF203, gm_un (by decide), hF183, gm_un (by decide)]; exact hxa.2.2.1) ?_
                refine mo_s54 C dd_Mo_best_223 (by omega) (kk := fun F223 hF223 => ?_)
                refine gx_aload_n C 3 dd_Mo_best_224 (kk := ?_)
                refine mo_get C fd_Mo_41 dd_Mo_best_225 (kk := ?_)
                refine gx_iconst (v := nI 5) C dd_Mo_best_228 (kk := ?_)
                refine gx_aload_n C 3 dd_Mo_best_229 (kk := ?_)
                refine mo_get C fd_Mo_177 dd_Mo_best_230 (kk := ?_)
                refine gx_topi _ hP1.1 ?_
                refine gx_imul C dd_Mo_best_233 (kk := ?_)
                refine gx_topi _ (pk_mul _ _) ?_
                refine gx_iconst (v := nI 3) C dd_Mo_best_234 (kk := ?_)
                refine gx_iadd C dd_Mo_best_235 (kk := ?_)
                refine gx_topi _ (nI_add _ _) ?_
                refine gx_aload_n C 3 dd_Mo_best_236 (kk := ?_)
                refine mo_get C fd_Mo_35 dd_Mo_best_237 (kk := ?_)
                refine gx_iload C 0 dd_Mo_best_240 (kk := ?_)
                refine mo_l52 C dd_Mo_best_242 (by omega) (kk := ?_)
                refine gx_topi (nI (x.1 / 16 % 8)) (by rw [hF223, gm_un (by decide), hF203, gm_un (by decide), hF183, gm_un (by decide)]; exact hxa.2.2.2.1) ?_
                refine mo_s54 C dd_Mo_best_243 (by omega) (kk := fun F243 hF243 => ?_)
                refine gx_aload_n C 3 dd_Mo_best_244 (kk := ?_)
                refine mo_get C fd_Mo_44 dd_Mo_best_245 (kk := ?_)
                refine gx_aload_n C 3 dd_Mo_best_248 (kk := ?_)
                refine mo_get C fd_Mo_177 dd_Mo_best_249 (kk := ?_)
                refine gx_topi _ hP1.1 ?_
                refine gx_aload_n C 3 dd_Mo_best_252 (kk := ?_)
                refine mo_get C fd_Mo_38 dd_Mo_best_253 (kk := ?_)
                refine gx_iload C 0 dd_Mo_best_256 (kk := ?_)
                refine mo_l53 C dd_Mo_best_258 (by omega) (kk := ?_)
                refine gx_topl _ hxa.2.2.2.2 ?_
                refine mo_s55 C dd_Mo_best_259 (by omega) (kk := fun L259 hL259 => ?_)
                refine gx_aload_n C 3 dd_Mo_best_260 (kk := ?_)
                refine gx_dup C dd_Mo_best_261 (kk := ?_)
                refine mo_get C fd_Mo_177 dd_Mo_best_262 (kk := ?_)
                refine gx_topi _ hP1.1 ?_
                refine gx_iconst (v := nI 1) C dd_Mo_best_265 (kk := ?_)
                refine gx_iadd C dd_Mo_best_266 (kk := ?_)
                refine gx_topi _ (nI_add _ _) ?_
                refine mo_put_10 C fw_Mo_177 dd_Mo_best_267 (kk := fun S267 hS267 => ?_)
                refine gx_aload_n C 3 dd_Mo_best_270 (kk := ?_)
                refine mo_get C fd_Mo_29 dd_Mo_best_271 (kk := ?_)
                refine gx_iload C 0 dd_Mo_best_274 (kk := ?_)
                refine mo_l50 C dd_Mo_best_276 (by omega) (kk := ?_)
                refine gx_topi (nI (x.1 % 16)) (by rw [hF243, gm_un (by decide), hF223, gm_un (by decide), hF203, gm_un (by decide), hF183, gm_un (by decide)]; exact hxa.2.1) ?_
                refine gx_istore_n C _ dd_Mo_best_277 (kk := ?_)
                refine gx_goto C 68 dd_Mo_best_278 (kk := ?_)
                refine gx_loc [0, 2, 3, 4] ?_
                have hP2 : rs_P F243 L259 S267 (P1 ++ [x]) := rs_P_ad (by rw [hF243, gm_us, hF223, gm_us, hF203, gm_us, hF183, gm_us, hxq]) (by rw [hL259, gm_us]) (by rw [hS267, gm_us]) hP1
                exact ih (x.1 % 16) d (P1 ++ [x]) F243 L259 S267 (by omega) hto (by omega) (by rw [List.length_append]; show P1.length + 1 + m ≤ 16; omega) (by rw [hE, on_path_s hidx hx, List.append_assoc]; rfl) hP2 (fun k hk => by rw [hF243, gm_un hk, hF223, gm_un hk, hF203, gm_un hk, hF183, gm_un hk]; exact hF1 k hk) (fun k hk => by rw [hL259, gm_un hk]; exact hL1 k hk) (fun k hk => by rw [hS267, gm_un hk]; exact hS1 k hk)
              | succ m2 ihk =>
                intro j hj
                obtain ⟨x, hx⟩ : ∃ x, (am_ar (σ.1 i))[j]? = some x := ⟨_, List.getElem?_eq_getElem (by omega)⟩
                have hxa := (mo_is_q (fun k hk => (hF1 k (by omega)).trans (hF2 k (by omega))) (fun k hk => (hL1 k (by omega)).trans (hL2 k (by omega))) (hM i hi4)).2.2.2.2.1 j x hx
                have hxb := hok.1.2.2.1 x (List.mem_of_getElem? hx)
                have hpf : ¬ on_p (on_of (σ.1 i)) q x = true := by
                  obtain ⟨hil, -, hall⟩ := List.findIdx?_eq_some_iff_getElem.mp hidx
                  have := hall j (by omega)
                  rw [(List.getElem?_eq_some_iff.mp hx).2] at this
                  exact this
                refine gx_aload_n C 3 dd_Mo_best_83 (kk := ?_)
                by_cases hxq : x.1 / 1024 = q
                · refine mo_get C fd_Mo_26 dd_Mo_best_84 (kk := ?_)
                  refine gx_iload C 0 dd_Mo_best_87 (kk := ?_)
                  refine mo_l49 C dd_Mo_best_89 (by omega) (kk := ?_)
                  refine gx_topi _ hxa.1 ?_
                  refine gx_iload_n C 1 dd_Mo_best_90 (kk := ?_)
                  refine gx_icmp_ne C 166 dd_Mo_best_91 (fun h91 => absurd (congrArg nI hxq) h91) (fun h91 => ?_)
                  have ht0 := (hmn1 (x.1 % 16) (by omega)).1
                  rcases hto : (on_of (σ.1 i)) (x.1 % 16) with _ | d
                  · rw [hto] at ht0
                    refine gx_aload_n C 3 dd_Mo_best_94 (kk := ?_)
                    refine mo_get C fd_Mo_50 dd_Mo_best_95 (kk := ?_)
                    refine gx_aload_n C 3 dd_Mo_best_98 (kk := ?_)
                    refine mo_get C fd_Mo_29 dd_Mo_best_99 (kk := ?_)
                    refine gx_iload C 0 dd_Mo_best_102 (kk := ?_)
                    refine mo_l50 C dd_Mo_best_104 (by omega) (kk := ?_)
                    refine gx_topi _ hxa.2.1 ?_
                    refine mo_l57 C dd_Mo_best_105 (by omega) (kk := ?_)
                    refine gx_topl (4000000000000000000) ht0 ?_
                    refine gx_ldc2 C dd_Mo_best_106 kc_Mo_129 (kk := ?_)
                    refine gx_lcmp C dd_Mo_best_109 (kk := ?_)
                    refine gx_if_eq C 166 dd_Mo_best_110 (fun h110 => ?_) (fun h110 => absurd (by decide) h110)
                    refine gx_iinc C 0 (nI (65 * i + (j + 1))) _ dd_Mo_best_166 (nI_1 _) (kk := ?_)
                    refine gx_goto C 83 dd_Mo_best_169 (kk := ?_)
                    exact ihk (j + 1) (by omega)
                  · rw [hto] at ht0
                    have hdd := (hmn1 (x.1 % 16) (by omega)).2 d hto
                    have hft := hdd.1
                    have hd15 := on_15 hok (on_of_fix hok) hto
                    have hdb := hdd.2
                    refine gx_aload_n C 3 dd_Mo_best_94 (kk := ?_)
                    refine mo_get C fd_Mo_50 dd_Mo_best_95 (kk := ?_)
                    refine gx_aload_n C 3 dd_Mo_best_98 (kk := ?_)
                    refine mo_get C fd_Mo_29 dd_Mo_best_99 (kk := ?_)
                    refine gx_iload C 0 dd_Mo_best_102 (kk := ?_)
                    refine mo_l50 C dd_Mo_best_104 (by omega) (kk := ?_)
                    refine gx_topi _ hxa.2.1 ?_
                    refine mo_l57 C dd_Mo_best_105 (by omega) (kk := ?_)
                    refine gx_topl (lN (d / 32)) ht0 ?_
                    refine gx_ldc2 C dd_Mo_best_106 kc_Mo_129 (kk := ?_)
                    refine gx_lcmp C dd_Mo_best_109 (kk := ?_)
                    refine gx_if_eq C 166 dd_Mo_best_110 (fun h110 => absurd (lc_eq.mp h110) (mf_ne (by omega))) (fun h110 => ?_)
                    refine gx_aload_n C 3 dd_Mo_best_113 (kk := ?_)
                    refine mo_get C fd_Mo_50 dd_Mo_best_114 (kk := ?_)
                    refine gx_aload_n C 3 dd_Mo_best_117 (kk := ?_)
                    refine mo_get C fd_Mo_29 dd_Mo_best_118 (kk := ?_)
                    refine gx_iload C 0 dd_Mo_best_121 (kk := ?_)
                    refine mo_l50 C dd_Mo_best_123 (by omega) (kk := ?_)
                    refine gx_topi _ hxa.2.1 ?_
                    refine mo_l57 C dd_Mo_best_124 (by omega) (kk := ?_)
                    refine gx_topl (lN (d / 32)) ht0 ?_
                    refine gx_aload_n C 3 dd_Mo_best_125 (kk := ?_)
                    refine mo_get C fd_Mo_38 dd_Mo_best_126 (kk := ?_)
                    refine gx_iload C 0 dd_Mo_best_129 (kk := ?_)
                    refine mo_l53 C dd_Mo_best_131 (by omega) (kk := ?_)
                    refine gx_topl _ hxa.2.2.2.2 ?_
                    refine gx_ladd C dd_Mo_best_132 (kk := ?_)
                    refine gx_topl _ (lN_add _ _) ?_
                    refine gx_aload_n C 3 dd_Mo_best_133 (kk := ?_)
                    refine mo_get C fd_Mo_50 dd_Mo_best_134 (kk := ?_)
                    refine gx_iload_n C 1 dd_Mo_best_137 (kk := ?_)
                    refine mo_l57 C dd_Mo_best_138 (by omega) (kk := ?_)
                    refine gx_topl (lN (cq / 32)) hlq ?_
                    refine gx_lcmp C dd_Mo_best_139 (kk := ?_)
                    refine gx_if_ne C 166 dd_Mo_best_140 (fun h140 => ?_) (fun h140 => ?_)
                    · refine gx_iinc C 0 (nI (65 * i + (j + 1))) _ dd_Mo_best_166 (nI_1 _) (kk := ?_)
                      refine gx_goto C 83 dd_Mo_best_169 (kk := ?_)
                      exact ihk (j + 1) (by omega)
                    · refine gx_aload_n C 3 dd_Mo_best_143 (kk := ?_)
                      refine mo_get C fd_Mo_53 dd_Mo_best_144 (kk := ?_)
                      refine gx_aload_n C 3 dd_Mo_best_147 (kk := ?_)
                      refine mo_get C fd_Mo_29 dd_Mo_best_148 (kk := ?_)
                      refine gx_iload C 0 dd_Mo_best_151 (kk := ?_)
                      refine mo_l50 C dd_Mo_best_153 (by omega) (kk := ?_)
                      refine gx_topi _ hxa.2.1 ?_
                      refine mo_l58 C dd_Mo_best_154 (by omega) (kk := ?_)
                      refine gx_topi (nI (d % 32)) hft ?_
                      refine gx_iconst (v := nI 1) C dd_Mo_best_155 (kk := ?_)
                      refine gx_iadd C dd_Mo_best_156 (kk := ?_)
                      refine gx_topi _ (nI_add _ _) ?_
                      refine gx_aload_n C 3 dd_Mo_best_157 (kk := ?_)
                      refine mo_get C fd_Mo_53 dd_Mo_best_158 (kk := ?_)
                      refine gx_iload_n C 1 dd_Mo_best_161 (kk := ?_)
                      refine mo_l58 C dd_Mo_best_162 (by omega) (kk := ?_)
                      refine gx_topi (nI (cq % 32)) ((hmn1 q (by omega)).2 cq hcq).1 ?_
                      refine gx_icmp_eq C 172 dd_Mo_best_163 (fun h163 => ?_) (fun h163 => ?_)
                      · rw [lc_eq, pk_lEQ (by omega) (by omega)] at h140
                        rw [nI_eq (by omega) (by omega)] at h163
                        refine absurd ?_ hpf
                        unfold on_p
                        rw [decide_eq_true hxq, Bool.true_and]
                        refine decide_eq_true ?_
                        rw [hto, hcq]
                        show some (d + (x.2 * 32 + 1)) = some cq
                        congr 1
                        omega
                      · refine gx_iinc C 0 (nI (65 * i + (j + 1))) _ dd_Mo_best_166 (nI_1 _) (kk := ?_)
                        refine gx_goto C 83 dd_Mo_best_169 (kk := ?_)
                        exact ihk (j + 1) (by omega)
                · refine mo_get C fd_Mo_26 dd_Mo_best_84 (kk := ?_)
                  refine gx_iload C 0 dd_Mo_best_87 (kk := ?_)
                  refine mo_l49 C dd_Mo_best_89 (by omega) (kk := ?_)
                  refine gx_topi _ hxa.1 ?_
                  refine gx_iload_n C 1 dd_Mo_best_90 (kk := ?_)
                  refine gx_icmp_ne C 166 dd_Mo_best_91 (fun h91 => ?_) (fun h91 => absurd ((nI_eq (by omega) (by omega)).mp h91) hxq)
                  refine gx_iinc C 0 (nI (65 * i + (j + 1))) _ dd_Mo_best_166 (nI_1 _) (kk := ?_)
                  refine gx_goto C 83 dd_Mo_best_169 (kk := ?_)
                  exact ihk (j + 1) (by omega)
            exact look idx 0 (by omega)
        exact main (c0 % 32) xa.1 c0 [] F2 L2 S65 hxab.1 hc0 rfl (by show 0 + c0 % 32 ≤ 16; omega) rfl ⟨by rw [hS65, gm_us]; rfl, fun j y hy => absurd hy (by simp)⟩ (fun _ _ => rfl) (fun _ _ => rfl) (fun k hk => by rw [hS65, gm_un hk])
/-! TRIMMING -/
def mr_in (F : mo_F) (v : ls_V) : Prop := ∀ s, s < 16 → F 59 s = nI (v s).isSome.toNat
theorem mr_k {F F2 : mo_F} {v : ls_V} (h : F2 59 = F 59) (hv : mr_in F v) : mr_in F2 v := by
  unfold mr_in at hv ⊢
  rw [h]
  exact hv
theorem mr_nar (b : Bool) : vp_nar .boolean (nI b.toNat) = nI b.toNat := by cases b <;> rfl
theorem mr_up {F F2 : mo_F} {v : ls_V} {t : Nat} {o : Option Nat} {z : Int32} (h : F2 = va_up F 59 (upd (F 59) t (vp_nar .boolean z))) (hz : z = nI o.isSome.toNat) (hv : mr_in F v) : mr_in F2 (va_up v t o) := by
  intro s hs
  rw [h, gm_us]
  by_cases hst : s = t
  · subst hst
    rw [pk_us, gm_us, hz, mr_nar]
  · rw [pk_un hst, gm_un hst]
    exact hv s hs
theorem ls_J_some {E : List ls_A} {v : ls_V} {q : Nat} : (ls_J E v q).isSome = true ↔ (v q).isSome = true ∨ ∃ x ∈ E, x.2.1 = q ∧ (v x.1).isSome = true := by
  constructor
  · intro h
    rcases ls_J_or E v q with h1 | ⟨x, hx, hq, h1⟩
    · rw [h1] at h
      exact Or.inl h
    · rw [h1] at h
      refine Or.inr ⟨x, hx, hq, ?_⟩
      cases hv : v x.1 with
      | none => rw [hv] at h; cases h
      | some y => rfl
  · rintro (h | ⟨x, hx, rfl, h⟩)
    · obtain ⟨y, hy⟩ := Option.isSome_iff_exists.mp h
      obtain ⟨z, hz, -⟩ := ls_J_le E v q y hy
      rw [hz]
      rfl
    · obtain ⟨y, hy⟩ := Option.isSome_iff_exists.mp h
      obtain ⟨z, hz, -⟩ := ls_J_to (v := v) hx (y + x.2.2) (by rw [hy]; rfl)
      rw [hz]
      rfl
theorem tr_on {a : am_T} (h : am_ok a) (q : Nat) : (on_of a q).isSome = (tr_b a q).isSome := by
  have hb : ∀ x ∈ am_ar a, x.1 < 16384 := fun x hx => (h.1.2.2.1 x hx).1
  have hD : tr_b a = ls_D ((am_ar a).map am_xb) (am_e0 a (am_n a)) 16 := ls_one (tr_b_fix hb) ⟨ls_D_le0 _ _ 16, ls_D_cl (am_xb_E hb) (by decide), fun Y h1 h2 => ls_D_ge h1 h2 16⟩
  rw [mn_on h, hD]
  have key : ∀ k q, (ls_D ((am_ar a).map on_x) (on_v a (am_n a)) k q).isSome = (ls_D ((am_ar a).map am_xb) (am_e0 a (am_n a)) k q).isSome := by
    intro k
    induction k with
    | zero =>
      intro q
      show (on_v a (am_n a) q).isSome = (am_e0 a (am_n a) q).isSome
      unfold on_v am_e0
      by_cases hq : q < am_n a
      · rw [if_pos hq]
        cases he : am_en a q with
        | none => rw [if_neg (fun c => c.2 rfl)]; rfl
        | some e => rw [if_pos ⟨hq, by simp⟩]; rfl
      · rw [if_neg hq, if_neg (fun c => hq c.1)]
    | succ k ih =>
      intro q
      show (ls_J ((am_ar a).map on_x) _ q).isSome = (ls_J ((am_ar a).map am_xb) _ q).isSome
      rw [Bool.eq_iff_iff, ls_J_some, ls_J_some, ih q]
      constructor
      · rintro (h1 | ⟨e, he, hq, h1⟩)
        · exact Or.inl h1
        · obtain ⟨x, hx, rfl⟩ := List.mem_map.mp he
          have h1 : (ls_D ((am_ar a).map on_x) (on_v a (am_n a)) k (x.1 % 16)).isSome = true := h1
          rw [ih] at h1
          exact Or.inr ⟨am_xb x, List.mem_map_of_mem hx, hq, h1⟩
      · rintro (h1 | ⟨e, he, hq, h1⟩)
        · exact Or.inl h1
        · obtain ⟨x, hx, rfl⟩ := List.mem_map.mp he
          have h1 : (ls_D ((am_ar a).map am_xb) (am_e0 a (am_n a)) k (x.1 % 16)).isSome = true := h1
          rw [← ih] at h1
          exact Or.inr ⟨on_x x, List.mem_map_of_mem hx, hq, h1⟩
  exact key 16 q
set_option maxRecDepth 100000 in
set_option maxHeartbeats 4000000 in
theorem ct_Mo_findReached (l : Launch) (D : va_G) (dA : Nat → ClassId) (ad : Nat → Nat) (h : Nat → va_E) (F : mo_F) (L : mo_L) (S : Nat → Int32) {ia : Nat} {A : am_T} (hia : ia < 4) (hA : mo_is F L ia A) (hok : am_ok A) : gx_Ct l D dA yy_Mo_findReached cc_Mo_findReached 4 none 0 0 0 [.ref (ad 43), .int (nI ia)] (gx_w ad (mo_h dA ad h F L S)) (fun v w => v = none ∧ ∃ F2, w = (gx_w ad (mo_h dA ad h F2 L S)) ∧ (∀ k, k ≠ 59 → F2 k = F k) ∧ mr_in F2 (tr_a A)) := by
  refine gx_of (by decide) (Nat.le_of_ble_eq_true rfl) (fun K C _ _ => ?_)
  have hla := hA.2.2.2.2.2
  have hn16 := hok.1.1
  have rounds : ∀ m r0 vr F1, r0 + m = 16 → vr = ls_it ((am_ar A).map am_xa) r0 (am_v0 A) → mr_in F1 vr → (∀ s y, vr s = some y → y = 0) → (∀ k, k ≠ 59 → F1 k = F k) → gx_G K D 4 0 0 37 [(2, .int (nI r0)), (0, .ref (ad 43)), (1, .int (nI ia))] [] (gx_w ad (mo_h dA ad h F1 L S)) (gx_Z K D dA 0 0 (fun v w => v = none ∧ ∃ F2, w = (gx_w ad (mo_h dA ad h F2 L S)) ∧ (∀ k, k ≠ 59 → F2 k = F k) ∧ mr_in F2 (tr_a A))) := by
    intro m
    induction m with
    | zero =>
      intro r0 vr F1 hr0 hvr hin hz1 hFk
      refine gx_iload_n C 0 dd_Mo_findReached_37 (kk := ?_)
      refine gx_bipush (v := nI 16) C dd_Mo_findReached_38 (kk := ?_)
      refine gx_icmp_ge C 119 dd_Mo_findReached_40 (fun h40 => ?_) (fun h40 => absurd (nI_le (a := 16) (b := r0) (by omega) (by omega)) h40)
      refine gx_vret C dd_Mo_findReached_119 ?_
      rw [show r0 = 16 by omega] at hvr
      subst hvr
      exact ⟨rfl, F1, rfl, hFk, hin⟩
    | succ m ih =>
      intro r0 vr F1 hr0 hvr hin hz1 hFk
      refine gx_iload_n C 0 dd_Mo_findReached_37 (kk := ?_)
      refine gx_bipush (v := nI 16) C dd_Mo_findReached_38 (kk := ?_)
      refine gx_icmp_ge C 119 dd_Mo_findReached_40 (fun h40 => absurd h40 (nI_ge (by omega) (by omega))) (fun h40 => ?_)
      refine gx_bipush (v := nI 65) C dd_Mo_findReached_43 (kk := ?_)
      refine gx_iload_n C 2 dd_Mo_findReached_45 (kk := ?_)
      refine gx_imul C dd_Mo_findReached_46 (kk := ?_)
      refine gx_topi _ (pk_mul _ _) ?_
      refine gx_istore_n C _ dd_Mo_findReached_47 (kk := ?_)
      have inner : ∀ m j v1 F1, j + m = (am_ar A).length → v1 = ls_rd (((am_ar A).take j).map am_xa) vr → mr_in F1 v1 → (∀ s y, v1 s = some y → y = 0) → (∀ k, k ≠ 59 → F1 k = F k) → gx_G K D 4 0 0 48 [(3, .int (nI (65 * ia + j))), (2, .int (nI r0)), (0, .ref (ad 43)), (1, .int (nI ia))] [] (gx_w ad (mo_h dA ad h F1 L S)) (gx_Z K D dA 0 0 (fun v w => v = none ∧ ∃ F2, w = (gx_w ad (mo_h dA ad h F2 L S)) ∧ (∀ k, k ≠ 59 → F2 k = F k) ∧ mr_in F2 (tr_a A))) := by
        intro m
        induction m with
        | zero =>
          intro j v1 F1 hj hv1 hin hz1 hFk
          refine gx_iload_n C 0 dd_Mo_findReached_48 (kk := ?_)
          refine gx_bipush (v := nI 65) C dd_Mo_findReached_49 (kk := ?_)
          refine gx_iload_n C 3 dd_Mo_findReached_51 (kk := ?_)
          refine gx_imul C dd_Mo_findReached_52 (kk := ?_)
          refine gx_topi _ (pk_mul _ _) ?_
          refine gx_aload_n C 2 dd_Mo_findReached_53 (kk := ?_)
          refine mo_get C fd_Mo_23 dd_Mo_findReached_54 (kk := ?_)
          refine gx_iload_n C 3 dd_Mo_findReached_57 (kk := ?_)
          refine mo_l48 C dd_Mo_findReached_58 (by omega) (kk := ?_)
          refine gx_topi _ (mo_is_k (fun k hk => hFk k (by omega)) (fun _ _ => rfl) hA).2.2.2.1 ?_
          refine gx_iadd C dd_Mo_findReached_59 (kk := ?_)
          refine gx_topi _ (nI_add _ _) ?_
          refine gx_icmp_ge C 113 dd_Mo_findReached_60 (fun h60 => ?_) (fun h60 => absurd (nI_le (a := 65 * ia + (am_ar A).length) (b := 65 * ia + j) (by omega) (by omega)) h60)
          refine gx_iinc C 1 (nI (r0 + 1)) _ dd_Mo_findReached_113 (nI_1 _) (kk := ?_)
          refine gx_goto C 37 dd_Mo_findReached_116 (kk := ?_)
          refine gx_loc [0, 2, 3] ?_
          rw [show j = (am_ar A).length by omega, List.take_length] at hv1
          exact ih (r0 + 1) v1 F1 (by omega) (by rw [hv1, hvr]; rfl) hin hz1 hFk
        | succ m ihj =>
          intro j v1 F1 hj hv1 hin hz1 hFk
          obtain ⟨x, hx⟩ : ∃ x, (am_ar A)[j]? = some x := ⟨_, List.getElem?_eq_getElem (by omega)⟩
          have hxa := (mo_is_k (fun k hk => hFk k (by omega)) (fun _ _ => rfl) hA).2.2.2.2.1 j x hx
          have hxb := hok.1.2.2.1 x (List.mem_of_getElem? hx)
          refine gx_iload_n C 0 dd_Mo_findReached_48 (kk := ?_)
          refine gx_bipush (v := nI 65) C dd_Mo_findReached_49 (kk := ?_)
          refine gx_iload_n C 3 dd_Mo_findReached_51 (kk := ?_)
          refine gx_imul C dd_Mo_findReached_52 (kk := ?_)
          refine gx_topi _ (pk_mul _ _) ?_
          refine gx_aload_n C 2 dd_Mo_findReached_53 (kk := ?_)
          refine mo_get C fd_Mo_23 dd_Mo_findReached_54 (kk := ?_)
          refine gx_iload_n C 3 dd_Mo_findReached_57 (kk := ?_)
          refine mo_l48 C dd_Mo_findReached_58 (by omega) (kk := ?_)
          refine gx_topi _ (mo_is_k (fun k hk => hFk k (by omega)) (fun _ _ => rfl) hA).2.2.2.1 ?_
          refine gx_iadd C dd_Mo_findReached_59 (kk := ?_)
          refine gx_topi _ (nI_add _ _) ?_
          refine gx_icmp_ge C 113 dd_Mo_findReached_60 (fun h60 => absurd h60 (nI_ge (by omega) (by omega))) (fun h60 => ?_)
          have ht0 := hin (x.1 % 16) (by omega)
          rcases hvt : v1 (x.1 % 16) with _ | y0
          · rw [hvt] at ht0
            refine gx_aload_n C 2 dd_Mo_findReached_63 (kk := ?_)
            refine mo_get C fd_Mo_56 dd_Mo_findReached_64 (kk := ?_)
            refine gx_aload_n C 2 dd_Mo_findReached_67 (kk := ?_)
            refine mo_get C fd_Mo_29 dd_Mo_findReached_68 (kk := ?_)
            refine gx_iload_n C 0 dd_Mo_findReached_71 (kk := ?_)
            refine mo_l50 C dd_Mo_findReached_72 (by omega) (kk := ?_)
            refine gx_topi _ hxa.2.1 ?_
            refine gx_aload_n C 2 dd_Mo_findReached_73 (kk := ?_)
            refine mo_get C fd_Mo_56 dd_Mo_findReached_74 (kk := ?_)
            refine gx_aload_n C 2 dd_Mo_findReached_77 (kk := ?_)
            refine mo_get C fd_Mo_29 dd_Mo_findReached_78 (kk := ?_)
            refine gx_iload_n C 0 dd_Mo_findReached_81 (kk := ?_)
            refine mo_l50 C dd_Mo_findReached_82 (by omega) (kk := ?_)
            refine gx_topi _ hxa.2.1 ?_
            refine mo_l59 C dd_Mo_findReached_83 (by omega) (kk := ?_)
            refine gx_topi _ ht0 ?_
            refine gx_if_ne C 101 dd_Mo_findReached_84 (fun h84 => absurd rfl h84) (fun h84 => ?_)
            have hf0 := hin (x.1 / 1024) (by omega)
            rcases hvf : v1 (x.1 / 1024) with _ | z0
            · rw [hvf] at hf0
              refine gx_aload_n C 2 dd_Mo_findReached_87 (kk := ?_)
              refine mo_get C fd_Mo_56 dd_Mo_findReached_88 (kk := ?_)
              refine gx_aload_n C 2 dd_Mo_findReached_91 (kk := ?_)
              refine mo_get C fd_Mo_26 dd_Mo_findReached_92 (kk := ?_)
              refine gx_iload_n C 0 dd_Mo_findReached_95 (kk := ?_)
              refine mo_l49 C dd_Mo_findReached_96 (by omega) (kk := ?_)
              refine gx_topi _ hxa.1 ?_
              refine mo_l59 C dd_Mo_findReached_97 (by omega) (kk := ?_)
              refine gx_topi _ hf0 ?_
              refine gx_if_eq C 105 dd_Mo_findReached_98 (fun h98 => ?_) (fun h98 => absurd rfl h98)
              refine gx_iconst (v := nI 0) C dd_Mo_findReached_105 (kk := ?_)
              refine mo_s59 C dd_Mo_findReached_106 (by omega) (kk := fun F106 hF106 => ?_)
              refine gx_iinc C 0 (nI (65 * ia + (j + 1))) _ dd_Mo_findReached_107 (nI_1 _) (kk := ?_)
              refine gx_goto C 48 dd_Mo_findReached_110 (kk := ?_)
              have hrx : ls_rx v1 (am_xa x) = v1 := ls_rx_n (by
                show ¬ ls_lt (ls_ad (v1 (x.1 / 1024)) 0) (v1 (x.1 % 16)) = true
                rw [hvf]
                simp [ls_ad, ls_lt])
              exact ihj (j + 1) v1 F106 (by omega) (hrx.symm.trans (by rw [hv1, List.take_add_one, hx, Option.toList_some, List.map_append, List.map_singleton, ls_rd_s])) (by rw [← va_up_id v1 (x.1 % 16) hvt]; exact mr_up hF106 rfl hin) hz1 (fun k hk => by rw [hF106, gm_un hk]; exact hFk k hk)
            · rw [hvf] at hf0
              refine gx_aload_n C 2 dd_Mo_findReached_87 (kk := ?_)
              refine mo_get C fd_Mo_56 dd_Mo_findReached_88 (kk := ?_)
              refine gx_aload_n C 2 dd_Mo_findReached_91 (kk := ?_)
              refine mo_get C fd_Mo_26 dd_Mo_findReached_92 (kk := ?_)
              refine gx_iload_n C 0 dd_Mo_findReached_95 (kk := ?_)
              refine mo_l49 C dd_Mo_findReached_96 (by omega) (kk := ?_)
              refine gx_topi _ hxa.1 ?_
              refine mo_l59 C dd_Mo_findReached_97 (by omega) (kk := ?_)
              refine gx_topi _ hf0 ?_
              refine gx_if_eq C 105 dd_Mo_findReached_98 (fun h98 => absurd (show nI 1 = 0 from h98) (by decide)) (fun h98 => ?_)
              refine gx_iconst (v := nI 1) C dd_Mo_findReached_101 (kk := ?_)
              refine gx_goto C 106 dd_Mo_findReached_102 (kk := ?_)
              refine mo_s59 C dd_Mo_findReached_106 (by omega) (kk := fun F106 hF106 => ?_)
              refine gx_iinc C 0 (nI (65 * ia + (j + 1))) _ dd_Mo_findReached_107 (nI_1 _) (kk := ?_)
              refine gx_goto C 48 dd_Mo_findReached_110 (kk := ?_)
              have hz0 := hz1 _ _ hvf
              have hrx : ls_rx v1 (am_xa x) = va_up v1 (x.1 % 16) (some 0) := (ls_rx_y (by
                show ls_lt (ls_ad (v1 (x.1 / 1024)) 0) (v1 (x.1 % 16)) = true
                rw [hvf, hvt]
                rfl)).trans (by
                show va_up v1 (x.1 % 16) (ls_ad (v1 (x.1 / 1024)) 0) = _
                rw [hvf, hz0]
                rfl)
              exact ihj (j + 1) _ F106 (by omega) (hrx.symm.trans (by rw [hv1, List.take_add_one, hx, Option.toList_some, List.map_append, List.map_singleton, ls_rd_s])) (mr_up hF106 rfl hin) (fun s y hy => by
                by_cases hs : s = x.1 % 16
                · rw [hs, gm_us] at hy; cases hy; rfl
                · rw [gm_un hs] at hy; exact hz1 s y hy) (fun k hk => by rw [hF106, gm_un hk]; exact hFk k hk)
          · rw [hvt] at ht0
            refine gx_aload_n C 2 dd_Mo_findReached_63 (kk := ?_)
            refine mo_get C fd_Mo_56 dd_Mo_findReached_64 (kk := ?_)
            refine gx_aload_n C 2 dd_Mo_findReached_67 (kk := ?_)
            refine mo_get C fd_Mo_29 dd_Mo_findReached_68 (kk := ?_)
            refine gx_iload_n C 0 dd_Mo_findReached_71 (kk := ?_)
            refine mo_l50 C dd_Mo_findReached_72 (by omega) (kk := ?_)
            refine gx_topi _ hxa.2.1 ?_
            refine gx_aload_n C 2 dd_Mo_findReached_73 (kk := ?_)
            refine mo_get C fd_Mo_56 dd_Mo_findReached_74 (kk := ?_)
            refine gx_aload_n C 2 dd_Mo_findReached_77 (kk := ?_)
            refine mo_get C fd_Mo_29 dd_Mo_findReached_78 (kk := ?_)
            refine gx_iload_n C 0 dd_Mo_findReached_81 (kk := ?_)
            refine mo_l50 C dd_Mo_findReached_82 (by omega) (kk := ?_)
            refine gx_topi _ hxa.2.1 ?_
            refine mo_l59 C dd_Mo_findReached_83 (by omega) (kk := ?_)
            refine gx_topi _ ht0 ?_
            refine gx_if_ne C 101 dd_Mo_findReached_84 (fun h84 => ?_) (fun h84 => absurd (show nI 1 = 0 from h84) (by decide))
            refine gx_iconst (v := nI 1) C dd_Mo_findReached_101 (kk := ?_)
            refine gx_goto C 106 dd_Mo_findReached_102 (kk := ?_)
            refine mo_s59 C dd_Mo_findReached_106 (by omega) (kk := fun F106 hF106 => ?_)
            refine gx_iinc C 0 (nI (65 * ia + (j + 1))) _ dd_Mo_findReached_107 (nI_1 _) (kk := ?_)
            refine gx_goto C 48 dd_Mo_findReached_110 (kk := ?_)
            have hy0 := hz1 _ _ hvt
            have hrx : ls_rx v1 (am_xa x) = v1 := ls_rx_n (by
              show ¬ ls_lt (ls_ad (v1 (x.1 / 1024)) 0) (v1 (x.1 % 16)) = true
              rw [hvt]
              cases hvf : v1 (x.1 / 1024) with
              | none => simp [ls_ad, ls_lt]
              | some z =>
                simp [ls_ad, ls_lt]
                omega)
            exact ihj (j + 1) v1 F106 (by omega) (hrx.symm.trans (by rw [hv1, List.take_add_one, hx, Option.toList_some, List.map_append, List.map_singleton, ls_rd_s])) (by rw [← va_up_id v1 (x.1 % 16) hvt]; exact mr_up hF106 rfl hin) hz1 (fun k hk => by rw [hF106, gm_un hk]; exact hFk k hk)
      exact inner (am_ar A).length 0 vr F1 (by omega) rfl hin hz1 hFk
  have fill : ∀ m q F1, q + m = 16 → (∀ s, s < q → F1 59 s = nI (am_v0 A s).isSome.toNat) → (∀ k, k ≠ 59 → F1 k = F k) → gx_G K D 4 0 0 2 [(2, .int (nI q)), (0, .ref (ad 43)), (1, .int (nI ia))] [] (gx_w ad (mo_h dA ad h F1 L S)) (gx_Z K D dA 0 0 (fun v w => v = none ∧ ∃ F2, w = (gx_w ad (mo_h dA ad h F2 L S)) ∧ (∀ k, k ≠ 59 → F2 k = F k) ∧ mr_in F2 (tr_a A))) := by
    intro m
    induction m with
    | zero =>
      intro q F1 hq0 hf hFk
      refine gx_iload_n C 0 dd_Mo_findReached_2 (kk := ?_)
      refine gx_bipush (v := nI 16) C dd_Mo_findReached_3 (kk := ?_)
      refine gx_icmp_ge C 35 dd_Mo_findReached_5 (fun h5 => ?_) (fun h5 => absurd (nI_le (a := 16) (b := q) (by omega) (by omega)) h5)
      refine gx_iconst (v := nI 0) C dd_Mo_findReached_35 (kk := ?_)
      refine gx_istore_n C _ dd_Mo_findReached_36 (kk := ?_)
      exact rounds 16 0 (am_v0 A) F1 rfl rfl (fun s hs => hf s (by omega)) (fun s y hy => by
        unfold am_v0 at hy
        split at hy
        · cases hy
        · split at hy
          · cases hy; rfl
          · cases hy) hFk
    | succ m ih =>
      intro q F1 hq0 hf hFk
      refine gx_iload_n C 0 dd_Mo_findReached_2 (kk := ?_)
      refine gx_bipush (v := nI 16) C dd_Mo_findReached_3 (kk := ?_)
      refine gx_icmp_ge C 35 dd_Mo_findReached_5 (fun h5 => absurd h5 (nI_ge (by omega) (by omega))) (fun h5 => ?_)
      refine gx_aload_n C 1 dd_Mo_findReached_8 (kk := ?_)
      refine mo_get C fd_Mo_56 dd_Mo_findReached_9 (kk := ?_)
      refine gx_iload_n C 0 dd_Mo_findReached_12 (kk := ?_)
      have hsq1 := (mo_is_k (fun k hk => hFk k (by omega)) (fun _ _ => rfl) hA).2.1
      rcases hst : am_st A with _ | xa
      · rw [hst] at hsq1
        refine gx_iload_n C 0 dd_Mo_findReached_13 (kk := ?_)
        skip
        · refine gx_aload_n C 1 dd_Mo_findReached_14 (kk := ?_)
          refine mo_get C fd_Mo_13 dd_Mo_findReached_15 (kk := ?_)
          refine gx_iload_n C 2 dd_Mo_findReached_18 (kk := ?_)
          refine mo_l45 C dd_Mo_findReached_19 (by omega) (kk := ?_)
          refine gx_topi _ hsq1.1 ?_
          refine gx_icmp_ne C 27 dd_Mo_findReached_20 (fun h20 => ?_) (fun h20 => absurd h20 (nI_m1 (by omega)))
          refine gx_iconst (v := nI 0) C dd_Mo_findReached_27 (kk := ?_)
          refine mo_s59 C dd_Mo_findReached_28 (by omega) (kk := fun F28 hF28 => ?_)
          refine gx_iinc C 0 (nI (q + 1)) _ dd_Mo_findReached_29 (nI_1 _) (kk := ?_)
          refine gx_goto C 2 dd_Mo_findReached_32 (kk := ?_)
          have hmv : am_v0 A q = none := by
            unfold am_v0
            rw [hst]
          refine ih (q + 1) F28 (by omega) (fun s hs => ?_) (fun k hk => by rw [hF28, gm_un hk]; exact hFk k hk)
          rw [hF28, gm_us]
          by_cases hsq : s = q
          · rw [hsq, pk_us, hmv]
            rfl
          · rw [pk_un hsq]
            exact hf s (by omega)
      · rw [hst] at hsq1
        have hxab := hok.1.2.2.2.2 xa hst
        refine gx_iload_n C 0 dd_Mo_findReached_13 (kk := ?_)
        by_cases hqx : q = xa.1
        · refine gx_aload_n C 1 dd_Mo_findReached_14 (kk := ?_)
          refine mo_get C fd_Mo_13 dd_Mo_findReached_15 (kk := ?_)
          refine gx_iload_n C 2 dd_Mo_findReached_18 (kk := ?_)
          refine mo_l45 C dd_Mo_findReached_19 (by omega) (kk := ?_)
          refine gx_topi _ hsq1.1 ?_
          refine gx_icmp_ne C 27 dd_Mo_findReached_20 (fun h20 => absurd (congrArg nI hqx) h20) (fun h20 => ?_)
          refine gx_iconst (v := nI 1) C dd_Mo_findReached_23 (kk := ?_)
          refine gx_goto C 28 dd_Mo_findReached_24 (kk := ?_)
          refine mo_s59 C dd_Mo_findReached_28 (by omega) (kk := fun F28 hF28 => ?_)
          refine gx_iinc C 0 (nI (q + 1)) _ dd_Mo_findReached_29 (nI_1 _) (kk := ?_)
          refine gx_goto C 2 dd_Mo_findReached_32 (kk := ?_)
          have hmv : am_v0 A q = some 0 := by
            unfold am_v0
            rw [hst]
            exact if_pos hqx
          refine ih (q + 1) F28 (by omega) (fun s hs => ?_) (fun k hk => by rw [hF28, gm_un hk]; exact hFk k hk)
          rw [hF28, gm_us]
          by_cases hsq : s = q
          · rw [hsq, pk_us, hmv]
            rfl
          · rw [pk_un hsq]
            exact hf s (by omega)
        · refine gx_aload_n C 1 dd_Mo_findReached_14 (kk := ?_)
          refine mo_get C fd_Mo_13 dd_Mo_findReached_15 (kk := ?_)
          refine gx_iload_n C 2 dd_Mo_findReached_18 (kk := ?_)
          refine mo_l45 C dd_Mo_findReached_19 (by omega) (kk := ?_)
          refine gx_topi _ hsq1.1 ?_
          refine gx_icmp_ne C 27 dd_Mo_findReached_20 (fun h20 => ?_) (fun h20 => absurd ((nI_eq (by omega) (by omega)).mp h20) hqx)
          refine gx_iconst (v := nI 0) C dd_Mo_findReached_27 (kk := ?_)
          refine mo_s59 C dd_Mo_findReached_28 (by omega) (kk := fun F28 hF28 => ?_)
          refine gx_iinc C 0 (nI (q + 1)) _ dd_Mo_findReached_29 (nI_1 _) (kk := ?_)
          refine gx_goto C 2 dd_Mo_findReached_32 (kk := ?_)
          have hmv : am_v0 A q = none := by
            unfold am_v0
            rw [hst]
            exact if_neg hqx
          refine ih (q + 1) F28 (by omega) (fun s hs => ?_) (fun k hk => by rw [hF28, gm_un hk]; exact hFk k hk)
          rw [hF28, gm_us]
          by_cases hsq : s = q
          · rw [hsq, pk_us, hmv]
            rfl
          · rw [pk_un hsq]
            exact hf s (by omega)
  refine gx_iconst (v := nI 0) C dd_Mo_findReached_0 (kk := ?_)
  refine gx_istore_n C _ dd_Mo_findReached_1 (kk := ?_)
  exact fill 16 0 F rfl (fun s hs => absurd hs (Nat.not_lt_zero _)) (fun _ _ => rfl)
set_option maxRecDepth 100000 in
set_option maxHeartbeats 4000000 in
theorem ct_Mo_rank (l : Launch) (D : va_G) (dA : Nat → ClassId) (ad : Nat → Nat) (h : Nat → va_E) (F : mo_F) (L : mo_L) (S : Nat → Int32) {A : am_T} (hok : am_ok A) (hmr : mr_in F (tr_a A)) (hmn : mn_ok F L A) {n0 : Nat} (hn0 : n0 ≤ 16) : gx_Ct l D dA yy_Mo_rank cc_Mo_rank 4 (some .int) 0 0 0 [.ref (ad 43), .int (nI n0)] (gx_w ad (mo_h dA ad h F L S)) (fun v w => v = some (.int (nI (pc_P (tr_P A) n0))) ∧ w = (gx_w ad (mo_h dA ad h F L S))) := by
  refine gx_of (by decide) (Nat.le_of_ble_eq_true rfl) (fun K C _ _ => ?_)
  have loop : ∀ m q, q + m = n0 → gx_G K D 4 0 0 4 [(3, .int (nI q)), (2, .int (nI (pc_P (tr_P A) q))), (0, .ref (ad 43)), (1, .int (nI n0))] [] (gx_w ad (mo_h dA ad h F L S)) (gx_Z K D dA 0 0 (fun v w => v = some (.int (nI (pc_P (tr_P A) n0))) ∧ w = (gx_w ad (mo_h dA ad h F L S)))) := by
    intro m
    induction m with
    | zero =>
      intro q hq0
      refine gx_iload_n C 0 dd_Mo_rank_4 (kk := ?_)
      refine gx_iload_n C 3 dd_Mo_rank_5 (kk := ?_)
      refine gx_icmp_ge C 45 dd_Mo_rank_6 (fun h6 => ?_) (fun h6 => absurd (nI_le (a := n0) (b := q) (by omega) (by omega)) h6)
      refine gx_iload_n C 1 dd_Mo_rank_45 (kk := ?_)
      refine gx_iret C dd_Mo_rank_46 ?_
      rw [show q = n0 by omega]
      exact ⟨rfl, rfl⟩
    | succ m ih =>
      intro q hq0
      refine gx_iload_n C 0 dd_Mo_rank_4 (kk := ?_)
      refine gx_iload_n C 3 dd_Mo_rank_5 (kk := ?_)
      refine gx_icmp_ge C 45 dd_Mo_rank_6 (fun h6 => absurd h6 (nI_ge (by omega) (by omega))) (fun h6 => ?_)
      have ha0 := hmr q (by omega)
      rcases hva : tr_a A q with _ | ya
      · rw [hva] at ha0
        have hPq : tr_P A q = false := by
          unfold tr_P
          rw [hva]
          rfl
        refine gx_aload_n C 2 dd_Mo_rank_9 (kk := ?_)
        refine mo_get C fd_Mo_56 dd_Mo_rank_10 (kk := ?_)
        refine gx_iload_n C 0 dd_Mo_rank_13 (kk := ?_)
        refine mo_l59 C dd_Mo_rank_14 (by omega) (kk := ?_)
        refine gx_topi _ ha0 ?_
        refine gx_if_eq C 37 dd_Mo_rank_15 (fun h15 => ?_) (fun h15 => absurd rfl h15)
        refine gx_iload_n C 1 dd_Mo_rank_37 (kk := ?_)
        refine gx_topi (nI (pc_P (tr_P A) (q + 1))) (by show _ = nI (pc_P (tr_P A) q + (tr_P A q).toNat); rw [hPq]; rfl) ?_
        refine gx_istore_n C _ dd_Mo_rank_38 (kk := ?_)
        refine gx_iinc C 1 (nI (q + 1)) _ dd_Mo_rank_39 (nI_1 _) (kk := ?_)
        refine gx_goto C 4 dd_Mo_rank_42 (kk := ?_)
        exact ih (q + 1) (by omega)
      · rw [hva] at ha0
        refine gx_aload_n C 2 dd_Mo_rank_9 (kk := ?_)
        refine mo_get C fd_Mo_56 dd_Mo_rank_10 (kk := ?_)
        refine gx_iload_n C 0 dd_Mo_rank_13 (kk := ?_)
        refine mo_l59 C dd_Mo_rank_14 (by omega) (kk := ?_)
        refine gx_topi _ ha0 ?_
        refine gx_if_eq C 37 dd_Mo_rank_15 (fun h15 => absurd (show nI 1 = 0 from h15) (by decide)) (fun h15 => ?_)
        have hl0 := (hmn q (by omega)).1
        rcases hvo : on_of A q with _ | c
        · rw [hvo] at hl0
          have hPq : tr_P A q = false := by
            unfold tr_P
            rw [← tr_on hok, hvo, Bool.and_comm]
            rfl
          refine gx_aload_n C 2 dd_Mo_rank_18 (kk := ?_)
          refine mo_get C fd_Mo_50 dd_Mo_rank_19 (kk := ?_)
          refine gx_iload_n C 0 dd_Mo_rank_22 (kk := ?_)
          refine mo_l57 C dd_Mo_rank_23 (by omega) (kk := ?_)
          refine gx_topl (4000000000000000000) hl0 ?_
          refine gx_ldc2 C dd_Mo_rank_24 kc_Mo_129 (kk := ?_)
          refine gx_lcmp C dd_Mo_rank_27 (kk := ?_)
          refine gx_if_ge C 37 dd_Mo_rank_28 (fun h28 => ?_) (fun h28 => absurd (by decide) h28)
          refine gx_iload_n C 1 dd_Mo_rank_37 (kk := ?_)
          refine gx_topi (nI (pc_P (tr_P A) (q + 1))) (by show _ = nI (pc_P (tr_P A) q + (tr_P A q).toNat); rw [hPq]; rfl) ?_
          refine gx_istore_n C _ dd_Mo_rank_38 (kk := ?_)
          refine gx_iinc C 1 (nI (q + 1)) _ dd_Mo_rank_39 (nI_1 _) (kk := ?_)
          refine gx_goto C 4 dd_Mo_rank_42 (kk := ?_)
          exact ih (q + 1) (by omega)
        · rw [hvo] at hl0
          have hcb := ((hmn q (by omega)).2 c hvo).2
          have hPq : tr_P A q = true := by
            unfold tr_P
            rw [← tr_on hok, hvo, hva]
            rfl
          refine gx_aload_n C 2 dd_Mo_rank_18 (kk := ?_)
          refine mo_get C fd_Mo_50 dd_Mo_rank_19 (kk := ?_)
          refine gx_iload_n C 0 dd_Mo_rank_22 (kk := ?_)
          refine mo_l57 C dd_Mo_rank_23 (by omega) (kk := ?_)
          refine gx_topl (lN (c / 32)) hl0 ?_
          refine gx_ldc2 C dd_Mo_rank_24 kc_Mo_129 (kk := ?_)
          refine gx_lcmp C dd_Mo_rank_27 (kk := ?_)
          refine gx_if_ge C 37 dd_Mo_rank_28 (fun h28 => absurd (lc_ge.mp h28) (mf_fl (by omega))) (fun h28 => ?_)
          refine gx_iload_n C 1 dd_Mo_rank_31 (kk := ?_)
          refine gx_iconst (v := nI 1) C dd_Mo_rank_32 (kk := ?_)
          refine gx_iadd C dd_Mo_rank_33 (kk := ?_)
          refine gx_topi _ (nI_add _ _) ?_
          refine gx_goto C 38 dd_Mo_rank_34 (kk := ?_)
          refine gx_topi (nI (pc_P (tr_P A) (q + 1))) (by show _ = nI (pc_P (tr_P A) q + (tr_P A q).toNat); rw [hPq]; rfl) ?_
          refine gx_istore_n C _ dd_Mo_rank_38 (kk := ?_)
          refine gx_iinc C 1 (nI (q + 1)) _ dd_Mo_rank_39 (nI_1 _) (kk := ?_)
          refine gx_goto C 4 dd_Mo_rank_42 (kk := ?_)
          exact ih (q + 1) (by omega)
  refine gx_iconst (v := nI 0) C dd_Mo_rank_0 (kk := ?_)
  refine gx_istore_n C _ dd_Mo_rank_1 (kk := ?_)
  refine gx_iconst (v := nI 0) C dd_Mo_rank_2 (kk := ?_)
  refine gx_istore_n C _ dd_Mo_rank_3 (kk := ?_)
  exact loop n0 0 (by omega)
set_option maxRecDepth 100000 in
set_option maxHeartbeats 4000000 in
theorem ct_Mo_isOnPath (l : Launch) (D : va_G) (dA : Nat → ClassId) (ad : Nat → Nat) (h : Nat → va_E) (F : mo_F) (L : mo_L) (S : Nat → Int32) {A : am_T} (hok : am_ok A) (hmr : mr_in F (tr_a A)) (hmn : mn_ok F L A) {q : Nat} (hq0 : q < 16) : gx_Ct l D dA yy_Mo_isOnPath cc_Mo_isOnPath 2 (some .boolean) 0 0 0 [.ref (ad 43), .int (nI q)] (gx_w ad (mo_h dA ad h F L S)) (fun v w => v = some (.int (nI (tr_P A q).toNat)) ∧ w = (gx_w ad (mo_h dA ad h F L S))) := by
  refine gx_of (by decide) (Nat.le_of_ble_eq_true rfl) (fun K C _ _ => ?_)
  have ha0 := hmr q (by omega)
  rcases hva : tr_a A q with _ | ya
  · rw [hva] at ha0
    have hPq : tr_P A q = false := by
      unfold tr_P
      rw [hva]
      rfl
    refine gx_aload_n C 0 dd_Mo_isOnPath_0 (kk := ?_)
    refine mo_get C fd_Mo_56 dd_Mo_isOnPath_1 (kk := ?_)
    refine gx_iload_n C 1 dd_Mo_isOnPath_4 (kk := ?_)
    refine mo_l59 C dd_Mo_isOnPath_5 (by omega) (kk := ?_)
    refine gx_topi _ ha0 ?_
    refine gx_if_eq C 26 dd_Mo_isOnPath_6 (fun h6 => ?_) (fun h6 => absurd rfl h6)
    refine gx_iconst (v := nI 0) C dd_Mo_isOnPath_26 (kk := ?_)
    refine gx_zret C dd_Mo_isOnPath_27 (by first | rfl | exact fb_nar) ?_
    rw [hPq]
    exact ⟨rfl, rfl⟩
  · rw [hva] at ha0
    refine gx_aload_n C 0 dd_Mo_isOnPath_0 (kk := ?_)
    refine mo_get C fd_Mo_56 dd_Mo_isOnPath_1 (kk := ?_)
    refine gx_iload_n C 1 dd_Mo_isOnPath_4 (kk := ?_)
    refine mo_l59 C dd_Mo_isOnPath_5 (by omega) (kk := ?_)
    refine gx_topi _ ha0 ?_
    refine gx_if_eq C 26 dd_Mo_isOnPath_6 (fun h6 => absurd (show nI 1 = 0 from h6) (by decide)) (fun h6 => ?_)
    have hl0 := (hmn q (by omega)).1
    rcases hvo : on_of A q with _ | c
    · rw [hvo] at hl0
      have hPq : tr_P A q = false := by
        unfold tr_P
        rw [← tr_on hok, hvo, Bool.and_comm]
        rfl
      refine gx_aload_n C 0 dd_Mo_isOnPath_9 (kk := ?_)
      refine mo_get C fd_Mo_50 dd_Mo_isOnPath_10 (kk := ?_)
      refine gx_iload_n C 1 dd_Mo_isOnPath_13 (kk := ?_)
      refine mo_l57 C dd_Mo_isOnPath_14 (by omega) (kk := ?_)
      refine gx_topl (4000000000000000000) hl0 ?_
      refine gx_ldc2 C dd_Mo_isOnPath_15 kc_Mo_129 (kk := ?_)
      refine gx_lcmp C dd_Mo_isOnPath_18 (kk := ?_)
      refine gx_if_ge C 26 dd_Mo_isOnPath_19 (fun h19 => ?_) (fun h19 => absurd (by decide) h19)
      refine gx_iconst (v := nI 0) C dd_Mo_isOnPath_26 (kk := ?_)
      refine gx_zret C dd_Mo_isOnPath_27 (by first | rfl | exact fb_nar) ?_
      rw [hPq]
      exact ⟨rfl, rfl⟩
    · rw [hvo] at hl0
      have hcb := ((hmn q (by omega)).2 c hvo).2
      have hPq : tr_P A q = true := by
        unfold tr_P
        rw [← tr_on hok, hvo, hva]
        rfl
      refine gx_aload_n C 0 dd_Mo_isOnPath_9 (kk := ?_)
      refine mo_get C fd_Mo_50 dd_Mo_isOnPath_10 (kk := ?_)
      refine gx_iload_n C 1 dd_Mo_isOnPath_13 (kk := ?_)
      refine mo_l57 C dd_Mo_isOnPath_14 (by omega) (kk := ?_)
      refine gx_topl (lN (c / 32)) hl0 ?_
      refine gx_ldc2 C dd_Mo_isOnPath_15 kc_Mo_129 (kk := ?_)
      refine gx_lcmp C dd_Mo_isOnPath_18 (kk := ?_)
      refine gx_if_ge C 26 dd_Mo_isOnPath_19 (fun h19 => absurd (lc_ge.mp h19) (mf_fl (by omega))) (fun h19 => ?_)
      refine gx_iconst (v := nI 1) C dd_Mo_isOnPath_22 (kk := ?_)
      refine gx_goto C 27 dd_Mo_isOnPath_23 (kk := ?_)
      refine gx_zret C dd_Mo_isOnPath_27 (by first | rfl | exact fb_nar) ?_
      rw [hPq]
      exact ⟨rfl, rfl⟩
theorem tr_esb {a : am_T} {P : Nat → Bool} (ha : ∀ q e, am_en a q = some e → e < 1000000001) : ∀ k q e, tr_es a P k q = some e → e < 35184372088832
  | 0, q, e, h => by cases h
  | k + 1, q, e, h => by
    rcases hP : P k with _ | _
    · rw [tr_es_n hP] at h
      exact tr_esb ha k q e h
    · rw [tr_es_y hP] at h
      by_cases hq : q = pc_P P k
      · rw [hq, gm_us] at h
        exact Nat.lt_trans (ha k e h) (by decide)
      · rw [gm_un hq] at h
        exact tr_esb ha k q e h
theorem tr_stb {a : am_T} {P : Nat → Bool} (h : am_ok a) (x : Nat × Nat) (hx : tr_st a P = some x) : x.1 < 16 ∧ x.2 < 35184372088832 := by
  unfold tr_st at hx
  by_cases h0 : pc_P P 16 = 0
  · rw [if_pos h0] at hx
    cases hx
  · rw [if_neg h0] at hx
    cases hs : am_st a with
    | none =>
      rw [hs] at hx
      cases hx
    | some xa =>
      rw [hs] at hx
      have hx : some (pc_P P xa.1, xa.2) = some x := hx
      cases hx
      have hxb := h.1.2.2.2.2 xa hs
      have := pc_P_le P xa.1
      exact ⟨by show pc_P P xa.1 < 16; omega, by show xa.2 < _; omega⟩
set_option maxRecDepth 100000 in
set_option maxHeartbeats 4000000 in
theorem ct_Mo_trim (l : Launch) (D : va_G) (dA : Nat → ClassId) (ad : Nat → Nat) (h : Nat → va_E) (F : mo_F) (L : mo_L) (S : Nat → Int32) {σ : sg} (hr : rs F L S σ) (hσ : sg_ok σ) (a c : Int32) : gx_Ct l D dA yy_Mo_trim cc_Mo_trim 5 (some .int) 2 0 0 [.ref (ad 43), .int a, .int c] (gx_w ad (mo_h dA ad h F L S)) (fun v w => ∃ F2 L2 S2, w = (gx_w ad (mo_h dA ad h F2 L2 S2)) ∧ rs F2 L2 S2 (o_trim σ a c).2 ∧ v = some (.int (o_trim σ a c).1)) := by
  refine gx_of (by decide) (Nat.le_of_ble_eq_true rfl) (fun K C _ _ => ?_)
  have hM := hr.1
  have hP := hr.2.1
  have hX := hr.2.2
  refine gx_iload_n C 1 dd_Mo_trim_0 (kk := ?_)
  refine gx_callS C (ct_Mo_isSlot (gx_l K) D dA _ a) me_Mo_isSlot ml_Mo_81 ms_Mo_isSlot dd_Mo_trim_1 (kk := fun v w hq => ?_)
  obtain ⟨rfl, rfl⟩ := hq
  rcases hi : ix 4 a with _ | i
  · refine gx_if_eq C 14 dd_Mo_trim_4 (fun h4 => ?_) (fun h4 => absurd rfl h4)
    refine gx_iconst (v := -1) C dd_Mo_trim_14 (kk := ?_)
    refine gx_iret C dd_Mo_trim_15 ?_
    have hsp : o_trim σ a c = (-1, σ) := by
      unfold o_trim
      simp only [hi]
    rw [hsp]
    exact ⟨F, L, S, rfl, hr, rfl⟩
  · obtain ⟨hi4, rfl⟩ := ix_of (by decide) hi
    refine gx_if_eq C 14 dd_Mo_trim_4 (fun h4 => absurd (show true = false from fb_0.mp h4) (by decide)) (fun h4 => ?_)
    refine gx_iload_n C 2 dd_Mo_trim_7 (kk := ?_)
    refine gx_callS C (ct_Mo_isSlot (gx_l K) D dA _ c) me_Mo_isSlot ml_Mo_81 ms_Mo_isSlot dd_Mo_trim_8 (kk := fun v w hq => ?_)
    obtain ⟨rfl, rfl⟩ := hq
    rcases hk : ix 4 c with _ | k
    · refine gx_if_ne C 16 dd_Mo_trim_11 (fun h11 => absurd rfl h11) (fun h11 => ?_)
      refine gx_iconst (v := -1) C dd_Mo_trim_14 (kk := ?_)
      refine gx_iret C dd_Mo_trim_15 ?_
      have hsp : o_trim σ (nI i) c = (-1, σ) := by
        unfold o_trim
        simp only [hi, hk]
      rw [hsp]
      exact ⟨F, L, S, rfl, hr, rfl⟩
    · obtain ⟨hk4, rfl⟩ := ix_of (by decide) hk
      refine gx_if_ne C 16 dd_Mo_trim_11 (fun h11 => ?_) (fun h11 => absurd (show true = false from fb_0.mp h11) (by decide))
      refine gx_aload_n C 0 dd_Mo_trim_16 (kk := ?_)
      refine gx_iload_n C 1 dd_Mo_trim_17 (kk := ?_)
      refine gx_callV C (ct_Mo_findOnward (gx_l K) D dA ad h F L S (ia := i) hi4 (hM i hi4) (hσ.1 i hi4)) me_Mo_findOnward ml_Mo_148 mn_Mo_findOnward _ (gx_w_at (by decide) mo_h_43) rfl dd_Mo_trim_18 (kk := fun v w hq => ?_)
      have hok := hσ.1 i hi4
      have hn16 := hok.1.1
      have hl64 := hok.1.2.1
      obtain ⟨rfl, F2, L2, rfl, hF2, hL2, hmn2⟩ := hq
      have hw2 : mo_w F L F2 L2 := mo_w_k (fun k hk => hF2 k (by omega)) (fun k hk => hL2 k (by omega))
      refine gx_aload_n C 0 dd_Mo_trim_21 (kk := ?_)
      refine gx_iload_n C 1 dd_Mo_trim_22 (kk := ?_)
      refine gx_callV C (ct_Mo_findReached (gx_l K) D dA ad h F2 L2 S (ia := i) hi4 (mo_w_is hw2 hi4 (hM i hi4)) hok) me_Mo_findReached ml_Mo_152 mn_Mo_findReached _ (gx_w_at (by decide) mo_h_43) rfl dd_Mo_trim_23 (kk := fun v w hq => ?_)
      obtain ⟨rfl, F3, rfl, hF3, hmr3⟩ := hq
      have hw3 : mo_w F L F3 L2 := mo_w_tr hw2 (mo_w_k (fun k hk => hF3 k (by omega)) (fun _ _ => rfl))
      have hmn3 : mn_ok F3 L2 (σ.1 i) := mn_ok_k (hF3 58 (by decide)) rfl hmn2
      refine gx_aload_n C 0 dd_Mo_trim_26 (kk := ?_)
      refine gx_iconst (v := nI 4) C dd_Mo_trim_27 (kk := ?_)
      refine gx_aload_n C 0 dd_Mo_trim_28 (kk := ?_)
      refine gx_bipush (v := nI 16) C dd_Mo_trim_29 (kk := ?_)
      refine gx_callV C (ct_Mo_rank (gx_l K) D dA ad h F3 L2 S hok hmr3 hmn3 (n0 := 16) (by decide)) me_Mo_rank ml_Mo_155 mn_Mo_rank _ (gx_w_at (by decide) mo_h_43) rfl dd_Mo_trim_31 (kk := fun v w hq => ?_)
      obtain ⟨rfl, rfl⟩ := hq
      refine gx_callV C (ct_Mo_blank (gx_l K) D dA ad h F3 L2 S (s := 4) (n := pc_P (tr_P (σ.1 i)) 16) (by decide)) me_Mo_blank ml_Mo_75 mn_Mo_blank _ (gx_w_at (by decide) mo_h_43) rfl dd_Mo_trim_34 (kk := fun v w hq => ?_)
      obtain ⟨rfl, F4, L4, rfl, hM4, hf4⟩ := hq
      have hw4 : mo_w F L F4 L4 := mo_w_tr hw3 (mo_w_fr hf4)
      have hmn4 : mn_ok F4 L4 (σ.1 i) := mn_ok_k (hf4.2.2.2 58 (by decide)).1 (hf4.2.2.2 57 (by decide)).2 hmn3
      have hmr4 : mr_in F4 (tr_a (σ.1 i)) := mr_k (hf4.2.2.2 59 (by decide)).1 hmr3
      refine gx_aload_n C 0 dd_Mo_trim_37 (kk := ?_)
      refine mo_get C fd_Mo_7 dd_Mo_trim_38 (kk := ?_)
      refine gx_iconst (v := nI 4) C dd_Mo_trim_41 (kk := ?_)
      refine mo_l44 C dd_Mo_trim_42 (by omega) (kk := ?_)
      refine gx_topi _ hM4.1 ?_
      by_cases h0 : pc_P (tr_P (σ.1 i)) 16 = 0
      · have hts : tr_st (σ.1 i) (tr_P (σ.1 i)) = none := if_pos h0
        refine gx_if_le C 74 dd_Mo_trim_43 (fun h43 => ?_) (fun h43 => absurd (show nI (pc_P (tr_P (σ.1 i)) 16) ≤ 0 by rw [h0]; decide) h43)
        refine gx_bipush (v := nI 65) C dd_Mo_trim_74 (kk := ?_)
        refine gx_iload_n C 1 dd_Mo_trim_76 (kk := ?_)
        refine gx_imul C dd_Mo_trim_77 (kk := ?_)
        refine gx_topi _ (pk_mul _ _) ?_
        refine gx_istore_n C _ dd_Mo_trim_78 (kk := ?_)
        have arcs : ∀ m j F1 L1, j + m = (am_ar (σ.1 i)).length → mo_is F1 L1 4 (pc_P (tr_P (σ.1 i)) 16, tr_st (σ.1 i) (tr_P (σ.1 i)), (fun _ => none), tr_ar (tr_P (σ.1 i)) (am_ar (σ.1 i)) j) → mo_w F L F1 L1 → mn_ok F1 L1 (σ.1 i) → mr_in F1 (tr_a (σ.1 i)) → am_so (tr_ar (tr_P (σ.1 i)) (am_ar (σ.1 i)) j) → (∀ x ∈ (tr_ar (tr_P (σ.1 i)) (am_ar (σ.1 i)) j), x.1 < 16384 ∧ x.2 < 35184372088832) → gx_G K D 5 0 0 79 [(3, .int (nI (65 * i + j))), (0, .ref (ad 43)), (1, .int (nI i)), (2, .int (nI k))] [] (gx_w ad (mo_h dA ad h F1 L1 S)) (gx_Z K D dA 0 0 (fun v w => ∃ F2 L2 S2, w = (gx_w ad (mo_h dA ad h F2 L2 S2)) ∧ rs F2 L2 S2 (o_trim σ (nI i) (nI k)).2 ∧ v = some (.int (o_trim σ (nI i) (nI k)).1))) := by
          intro m
          induction m with
          | zero =>
            intro j F1 L1 hj hM1 hw1 hmn hmr hso hab
            refine gx_iload_n C 0 dd_Mo_trim_79 (kk := ?_)
            refine gx_bipush (v := nI 65) C dd_Mo_trim_80 (kk := ?_)
            refine gx_iload_n C 2 dd_Mo_trim_82 (kk := ?_)
            refine gx_imul C dd_Mo_trim_83 (kk := ?_)
            refine gx_topi _ (pk_mul _ _) ?_
            refine gx_aload_n C 1 dd_Mo_trim_84 (kk := ?_)
            refine mo_get C fd_Mo_23 dd_Mo_trim_85 (kk := ?_)
            refine gx_iload_n C 2 dd_Mo_trim_88 (kk := ?_)
            refine mo_l48 C dd_Mo_trim_89 (by omega) (kk := ?_)
            refine gx_topi _ (mo_w_is hw1 hi4 (hM i hi4)).2.2.2.1 ?_
            refine gx_iadd C dd_Mo_trim_90 (kk := ?_)
            refine gx_topi _ (nI_add _ _) ?_
            refine gx_icmp_ge C 171 dd_Mo_trim_91 (fun h91 => ?_) (fun h91 => absurd (nI_le (a := 65 * i + (am_ar (σ.1 i)).length) (b := 65 * i + j) (by omega) (by omega)) h91)
            refine gx_iconst (v := nI 0) C dd_Mo_trim_171 (kk := ?_)
            refine gx_istore_n C _ dd_Mo_trim_172 (kk := ?_)
            obtain rfl : j = (am_ar (σ.1 i)).length := by omega
            have ends : ∀ m q L1, q + m = am_n (σ.1 i) → mo_is F1 L1 4 (pc_P (tr_P (σ.1 i)) 16, tr_st (σ.1 i) (tr_P (σ.1 i)), tr_es (σ.1 i) (tr_P (σ.1 i)) q, tr_ar (tr_P (σ.1 i)) (am_ar (σ.1 i)) (am_ar (σ.1 i)).length) → mo_w F L F1 L1 → mn_ok F1 L1 (σ.1 i) → mr_in F1 (tr_a (σ.1 i)) → gx_G K D 5 0 0 173 [(3, .int (nI q)), (0, .ref (ad 43)), (1, .int (nI i)), (2, .int (nI k))] [] (gx_w ad (mo_h dA ad h F1 L1 S)) (gx_Z K D dA 0 0 (fun v w => ∃ F2 L2 S2, w = (gx_w ad (mo_h dA ad h F2 L2 S2)) ∧ rs F2 L2 S2 (o_trim σ (nI i) (nI k)).2 ∧ v = some (.int (o_trim σ (nI i) (nI k)).1))) := by
              intro m
              induction m with
              | zero =>
                intro q L1 hq0 hM1 hw1 hmn hmr
                refine gx_iload_n C 0 dd_Mo_trim_173 (kk := ?_)
                refine gx_aload_n C 1 dd_Mo_trim_174 (kk := ?_)
                refine mo_get C fd_Mo_7 dd_Mo_trim_175 (kk := ?_)
                refine gx_iload_n C 2 dd_Mo_trim_178 (kk := ?_)
                refine mo_l44 C dd_Mo_trim_179 (by omega) (kk := ?_)
                refine gx_topi _ (mo_w_is hw1 hi4 (hM i hi4)).1 ?_
                refine gx_icmp_ge C 221 dd_Mo_trim_180 (fun h180 => ?_) (fun h180 => absurd (nI_le (a := am_n (σ.1 i)) (b := q) (by omega) (by omega)) h180)
                have hM9 : mo_is F1 L1 4 (pc_P (tr_P (σ.1 i)) 16, tr_st (σ.1 i) (tr_P (σ.1 i)), tr_es (σ.1 i) (tr_P (σ.1 i)) (am_n (σ.1 i)), tr_ar (tr_P (σ.1 i)) (am_ar (σ.1 i)) (am_ar (σ.1 i)).length) := by
                  rw [show q = am_n (σ.1 i) by omega] at hM1
                  exact hM1
                have hsb9 : ∀ x, tr_st (σ.1 i) (tr_P (σ.1 i)) = some x → x.1 < 16 ∧ x.2 < 35184372088832 := (tr_stb hok)
                refine gx_aload_n C 1 dd_Mo_trim_221 (kk := ?_)
                refine gx_iload_n C 3 dd_Mo_trim_222 (kk := ?_)
                refine gx_callV C (ct_Mo_keep (gx_l K) D dA ad h F1 L1 S (c := k) (B := 35184372088832) (b := (pc_P (tr_P (σ.1 i)) 16, tr_st (σ.1 i) (tr_P (σ.1 i)), tr_es (σ.1 i) (tr_P (σ.1 i)) (am_n (σ.1 i)), tr_ar (tr_P (σ.1 i)) (am_ar (σ.1 i)) (am_ar (σ.1 i)).length)) (by omega) hM9 (pc_P_le _ 16) (by decide) (fun x hx => (hab x hx).2) (tr_esb hok.1.2.2.2.1 _) hsb9) me_Mo_keep ml_Mo_126 mn_Mo_keep _ (gx_w_at (by decide) mo_h_43) rfl dd_Mo_trim_223 (kk := fun v w hq => ?_)
                obtain ⟨hfit, rfl, F7, L7, rfl, hM7, hf7⟩ := hq.resolve_right (fun e => absurd (e.1.symm.trans (tr_fit (P := tr_P (σ.1 i)) hok)) (by decide))
                refine gx_istore_n C _ dd_Mo_trim_226 (kk := ?_)
                refine gx_aload_n C 1 dd_Mo_trim_227 (kk := ?_)
                refine mo_get C fd_Mo_7 dd_Mo_trim_228 (kk := ?_)
                refine gx_iload_n C 3 dd_Mo_trim_231 (kk := ?_)
                refine mo_l44 C dd_Mo_trim_232 (by omega) (kk := ?_)
                refine gx_topi (nI (pc_P (tr_P (σ.1 i)) 16)) hM7.1 ?_
                refine gx_iret C dd_Mo_trim_233 ?_
                have hsp : o_trim σ (nI i) (nI k) = (nI (pc_P (tr_P (σ.1 i)) 16), o_set σ k (pc_P (tr_P (σ.1 i)) 16, tr_st (σ.1 i) (tr_P (σ.1 i)), tr_es (σ.1 i) (tr_P (σ.1 i)) (am_n (σ.1 i)), tr_ar (tr_P (σ.1 i)) (am_ar (σ.1 i)) (am_ar (σ.1 i)).length)) := by
                  unfold o_trim
                  simp only [hi, hk]
                  show (if am_fit (tr_mk (σ.1 i) (tr_P (σ.1 i))) = true then _ else _) = _
                  rw [if_pos (tr_fit hok)]
                  rfl
                rw [hsp]
                exact ⟨F7, L7, S, rfl, rs_set hf7 hM7 (mo_w_rs hw1 rfl rfl hr), rfl⟩
              | succ m ihq =>
                intro q L1 hq0 hM1 hw1 hmn hmr
                refine gx_iload_n C 0 dd_Mo_trim_173 (kk := ?_)
                refine gx_aload_n C 1 dd_Mo_trim_174 (kk := ?_)
                refine mo_get C fd_Mo_7 dd_Mo_trim_175 (kk := ?_)
                refine gx_iload_n C 2 dd_Mo_trim_178 (kk := ?_)
                refine mo_l44 C dd_Mo_trim_179 (by omega) (kk := ?_)
                refine gx_topi _ (mo_w_is hw1 hi4 (hM i hi4)).1 ?_
                refine gx_icmp_ge C 221 dd_Mo_trim_180 (fun h180 => absurd h180 (nI_ge (by omega) (by omega))) (fun h180 => ?_)
                refine gx_aload_n C 1 dd_Mo_trim_183 (kk := ?_)
                refine gx_iload_n C 0 dd_Mo_trim_184 (kk := ?_)
                refine gx_callV C (ct_Mo_isOnPath (gx_l K) D dA ad h F1 L1 S hok hmr hmn (q := q) (by omega)) me_Mo_isOnPath ml_Mo_159 mn_Mo_isOnPath _ (gx_w_at (by decide) mo_h_43) rfl dd_Mo_trim_185 (kk := fun v w hq => ?_)
                obtain ⟨rfl, rfl⟩ := hq
                rcases hPq : tr_P (σ.1 i) q with _ | _
                · refine gx_if_eq C 215 dd_Mo_trim_188 (fun h188 => ?_) (fun h188 => absurd rfl h188)
                  refine gx_iinc C 0 (nI (q + 1)) _ dd_Mo_trim_215 (nI_1 _) (kk := ?_)
                  refine gx_goto C 173 dd_Mo_trim_218 (kk := ?_)
                  exact ihq (q + 1) L1 (by omega) (by rw [tr_es_n hPq]; exact hM1) hw1 hmn hmr
                · have hpl := pc_P_le (tr_P (σ.1 i)) q
                  have heq0 := (mo_w_is hw1 hi4 (hM i hi4)).2.2.1 q (by omega)
                  refine gx_if_eq C 215 dd_Mo_trim_188 (fun h188 => absurd (show true = false from fb_0.mp h188) (by decide)) (fun h188 => ?_)
                  refine gx_aload_n C 1 dd_Mo_trim_191 (kk := ?_)
                  refine mo_get C fd_Mo_20 dd_Mo_trim_192 (kk := ?_)
                  refine gx_bipush (v := nI 64) C dd_Mo_trim_195 (kk := ?_)
                  refine gx_aload_n C 1 dd_Mo_trim_197 (kk := ?_)
                  refine gx_iload_n C 0 dd_Mo_trim_198 (kk := ?_)
                  refine gx_callV C (ct_Mo_rank (gx_l K) D dA ad h F1 L1 S hok hmr hmn (n0 := q) (by omega)) me_Mo_rank ml_Mo_155 mn_Mo_rank _ (gx_w_at (by decide) mo_h_43) rfl dd_Mo_trim_199 (kk := fun v w hq => ?_)
                  obtain ⟨rfl, rfl⟩ := hq
                  refine gx_iadd C dd_Mo_trim_202 (kk := ?_)
                  refine gx_topi _ (nI_add _ _) ?_
                  refine gx_aload_n C 1 dd_Mo_trim_203 (kk := ?_)
                  refine mo_get C fd_Mo_20 dd_Mo_trim_204 (kk := ?_)
                  refine gx_bipush (v := nI 16) C dd_Mo_trim_207 (kk := ?_)
                  refine gx_iload_n C 2 dd_Mo_trim_209 (kk := ?_)
                  refine gx_imul C dd_Mo_trim_210 (kk := ?_)
                  refine gx_topi _ (pk_mul _ _) ?_
                  refine gx_iload_n C 0 dd_Mo_trim_211 (kk := ?_)
                  refine gx_iadd C dd_Mo_trim_212 (kk := ?_)
                  refine gx_topi _ (nI_add _ _) ?_
                  refine mo_l47 C dd_Mo_trim_213 (by omega) (kk := ?_)
                  refine gx_topl _ heq0 ?_
                  refine mo_s47 C dd_Mo_trim_214 (by omega) (kk := fun L214 hL214 => ?_)
                  refine gx_iinc C 0 (nI (q + 1)) _ dd_Mo_trim_215 (nI_1 _) (kk := ?_)
                  refine gx_goto C 173 dd_Mo_trim_218 (kk := ?_)
                  have hM6 := mo_is_en (s := 4) (q := pc_P (tr_P (σ.1 i)) q) (o := am_en (σ.1 i) q) hL214 rfl hM1
                  exact ihq (q + 1) L214 (by omega) (by rw [tr_es_y hPq]; exact hM6) (mo_w_tr hw1 (mo_w_fr (mo_fr_47 (s := 4) (q := pc_P (tr_P (σ.1 i)) q) (by omega) hL214))) (mn_ok_k rfl (by rw [hL214, gm_un (by decide)]) hmn) hmr
            exact ends (am_n (σ.1 i)) 0 L1 (by omega) hM1 hw1 hmn hmr
          | succ m ihj =>
            intro j F1 L1 hj hM1 hw1 hmn hmr hso hab
            obtain ⟨x, hx⟩ : ∃ x, (am_ar (σ.1 i))[j]? = some x := ⟨_, List.getElem?_eq_getElem (by omega)⟩
            have hxa := (mo_w_is hw1 hi4 (hM i hi4)).2.2.2.2.1 j x hx
            have hxm := List.mem_of_getElem? hx
            have hxb := hok.1.2.2.1 x hxm
            have hp1 := pc_P_le (tr_P (σ.1 i)) (x.1 / 1024)
            have hp2 := pc_P_le (tr_P (σ.1 i)) (x.1 % 16)
            refine gx_iload_n C 0 dd_Mo_trim_79 (kk := ?_)
            refine gx_bipush (v := nI 65) C dd_Mo_trim_80 (kk := ?_)
            refine gx_iload_n C 2 dd_Mo_trim_82 (kk := ?_)
            refine gx_imul C dd_Mo_trim_83 (kk := ?_)
            refine gx_topi _ (pk_mul _ _) ?_
            refine gx_aload_n C 1 dd_Mo_trim_84 (kk := ?_)
            refine mo_get C fd_Mo_23 dd_Mo_trim_85 (kk := ?_)
            refine gx_iload_n C 2 dd_Mo_trim_88 (kk := ?_)
            refine mo_l48 C dd_Mo_trim_89 (by omega) (kk := ?_)
            refine gx_topi _ (mo_w_is hw1 hi4 (hM i hi4)).2.2.2.1 ?_
            refine gx_iadd C dd_Mo_trim_90 (kk := ?_)
            refine gx_topi _ (nI_add _ _) ?_
            refine gx_icmp_ge C 171 dd_Mo_trim_91 (fun h91 => absurd h91 (nI_ge (by omega) (by omega))) (fun h91 => ?_)
            refine gx_aload_n C 1 dd_Mo_trim_94 (kk := ?_)
            refine gx_aload_n C 1 dd_Mo_trim_95 (kk := ?_)
            refine mo_get C fd_Mo_26 dd_Mo_trim_96 (kk := ?_)
            refine gx_iload_n C 0 dd_Mo_trim_99 (kk := ?_)
            refine mo_l49 C dd_Mo_trim_100 (by omega) (kk := ?_)
            refine gx_topi _ hxa.1 ?_
            refine gx_callV C (ct_Mo_isOnPath (gx_l K) D dA ad h F1 L1 S hok hmr hmn (q := x.1 / 1024) (by omega)) me_Mo_isOnPath ml_Mo_159 mn_Mo_isOnPath _ (gx_w_at (by decide) mo_h_43) rfl dd_Mo_trim_101 (kk := fun v w hq => ?_)
            obtain ⟨rfl, rfl⟩ := hq
            rcases hPf : tr_P (σ.1 i) (x.1 / 1024) with _ | _
            · have hti : tr_i (tr_P (σ.1 i)) x = none := by
                unfold tr_i
                rw [hPf]
                rfl
              refine gx_if_eq C 165 dd_Mo_trim_104 (fun h104 => ?_) (fun h104 => absurd rfl h104)
              refine gx_iinc C 0 (nI (65 * i + (j + 1))) _ dd_Mo_trim_165 (nI_1 _) (kk := ?_)
              refine gx_goto C 79 dd_Mo_trim_168 (kk := ?_)
              exact ihj (j + 1) F1 L1 (by omega) (by rw [tr_ar_n hx hti]; exact hM1) hw1 hmn hmr (by rw [tr_ar_n hx hti]; exact hso) (by rw [tr_ar_n hx hti]; exact hab)
            · refine gx_if_eq C 165 dd_Mo_trim_104 (fun h104 => absurd (show true = false from fb_0.mp h104) (by decide)) (fun h104 => ?_)
              refine gx_aload_n C 1 dd_Mo_trim_107 (kk := ?_)
              refine gx_aload_n C 1 dd_Mo_trim_108 (kk := ?_)
              refine mo_get C fd_Mo_29 dd_Mo_trim_109 (kk := ?_)
              refine gx_iload_n C 0 dd_Mo_trim_112 (kk := ?_)
              refine mo_l50 C dd_Mo_trim_113 (by omega) (kk := ?_)
              refine gx_topi _ hxa.2.1 ?_
              refine gx_callV C (ct_Mo_isOnPath (gx_l K) D dA ad h F1 L1 S hok hmr hmn (q := x.1 % 16) (by omega)) me_Mo_isOnPath ml_Mo_159 mn_Mo_isOnPath _ (gx_w_at (by decide) mo_h_43) rfl dd_Mo_trim_114 (kk := fun v w hq => ?_)
              obtain ⟨rfl, rfl⟩ := hq
              rcases hPt : tr_P (σ.1 i) (x.1 % 16) with _ | _
              · have hti : tr_i (tr_P (σ.1 i)) x = none := by
                  unfold tr_i
                  rw [hPf, hPt]
                  rfl
                refine gx_if_eq C 165 dd_Mo_trim_117 (fun h117 => ?_) (fun h117 => absurd rfl h117)
                refine gx_iinc C 0 (nI (65 * i + (j + 1))) _ dd_Mo_trim_165 (nI_1 _) (kk := ?_)
                refine gx_goto C 79 dd_Mo_trim_168 (kk := ?_)
                exact ihj (j + 1) F1 L1 (by omega) (by rw [tr_ar_n hx hti]; exact hM1) hw1 hmn hmr (by rw [tr_ar_n hx hti]; exact hso) (by rw [tr_ar_n hx hti]; exact hab)
              · have hti : tr_i (tr_P (σ.1 i)) x = some (pc_P (tr_P (σ.1 i)) (x.1 / 1024) * 1024 + x.1 / 16 % 64 * 16 + pc_P (tr_P (σ.1 i)) (x.1 % 16), x.2) := by
                  unfold tr_i
                  rw [hPf, hPt]
                  rfl
                refine gx_if_eq C 165 dd_Mo_trim_117 (fun h117 => absurd (show true = false from fb_0.mp h117) (by decide)) (fun h117 => ?_)
                refine gx_aload_n C 1 dd_Mo_trim_120 (kk := ?_)
                refine gx_iconst (v := nI 4) C dd_Mo_trim_121 (kk := ?_)
                refine gx_aload_n C 1 dd_Mo_trim_122 (kk := ?_)
                refine gx_aload_n C 1 dd_Mo_trim_123 (kk := ?_)
                refine mo_get C fd_Mo_26 dd_Mo_trim_124 (kk := ?_)
                refine gx_iload_n C 0 dd_Mo_trim_127 (kk := ?_)
                refine mo_l49 C dd_Mo_trim_128 (by omega) (kk := ?_)
                refine gx_topi _ hxa.1 ?_
                refine gx_callV C (ct_Mo_rank (gx_l K) D dA ad h F1 L1 S hok hmr hmn (n0 := x.1 / 1024) (by omega)) me_Mo_rank ml_Mo_155 mn_Mo_rank _ (gx_w_at (by decide) mo_h_43) rfl dd_Mo_trim_129 (kk := fun v w hq => ?_)
                obtain ⟨rfl, rfl⟩ := hq
                refine gx_aload_n C 1 dd_Mo_trim_132 (kk := ?_)
                refine gx_aload_n C 1 dd_Mo_trim_133 (kk := ?_)
                refine mo_get C fd_Mo_29 dd_Mo_trim_134 (kk := ?_)
                refine gx_iload_n C 0 dd_Mo_trim_137 (kk := ?_)
                refine mo_l50 C dd_Mo_trim_138 (by omega) (kk := ?_)
                refine gx_topi _ hxa.2.1 ?_
                refine gx_callV C (ct_Mo_rank (gx_l K) D dA ad h F1 L1 S hok hmr hmn (n0 := x.1 % 16) (by omega)) me_Mo_rank ml_Mo_155 mn_Mo_rank _ (gx_w_at (by decide) mo_h_43) rfl dd_Mo_trim_139 (kk := fun v w hq => ?_)
                obtain ⟨rfl, rfl⟩ := hq
                refine gx_aload_n C 1 dd_Mo_trim_142 (kk := ?_)
                refine mo_get C fd_Mo_32 dd_Mo_trim_143 (kk := ?_)
                refine gx_iload_n C 0 dd_Mo_trim_146 (kk := ?_)
                refine mo_l51 C dd_Mo_trim_147 (by omega) (kk := ?_)
                refine gx_topi _ hxa.2.2.1 ?_
                refine gx_aload_n C 1 dd_Mo_trim_148 (kk := ?_)
                refine mo_get C fd_Mo_35 dd_Mo_trim_149 (kk := ?_)
                refine gx_iload_n C 0 dd_Mo_trim_152 (kk := ?_)
                refine mo_l52 C dd_Mo_trim_153 (by omega) (kk := ?_)
                refine gx_topi _ hxa.2.2.2.1 ?_
                refine gx_aload_n C 1 dd_Mo_trim_154 (kk := ?_)
                refine mo_get C fd_Mo_38 dd_Mo_trim_155 (kk := ?_)
                refine gx_iload_n C 0 dd_Mo_trim_158 (kk := ?_)
                refine mo_l53 C dd_Mo_trim_159 (by omega) (kk := ?_)
                refine gx_topl _ hxa.2.2.2.2 ?_
                refine gx_callV C (ct_Mo_put (gx_l K) D dA ad h F1 L1 S (s := 4) (f := pc_P (tr_P (σ.1 i)) (x.1 / 1024)) (t := pc_P (tr_P (σ.1 i)) (x.1 % 16)) (i := x.1 / 128 % 8) (o := x.1 / 16 % 8) (x0 := x.2) (B := 35184372088832) (a := (pc_P (tr_P (σ.1 i)) 16, tr_st (σ.1 i) (tr_P (σ.1 i)), (fun _ => none), tr_ar (tr_P (σ.1 i)) (am_ar (σ.1 i)) j)) (by decide) hM1 hso (fun z hz => (hab z hz).1) (fun z hz => (hab z hz).2) (by decide) (by omega) (by omega) (by omega) (by omega) (by omega)) me_Mo_put ml_Mo_99 mn_Mo_put _ (gx_w_at (by decide) mo_h_43) rfl dd_Mo_trim_160 (kk := fun v w hq => ?_)
                rw [show pr_k (pc_P (tr_P (σ.1 i)) (x.1 / 1024)) (x.1 / 128 % 8) (x.1 / 16 % 8) (pc_P (tr_P (σ.1 i)) (x.1 % 16)) = pc_P (tr_P (σ.1 i)) (x.1 / 1024) * 1024 + x.1 / 16 % 64 * 16 + pc_P (tr_P (σ.1 i)) (x.1 % 16) by unfold pr_k; omega] at hq
                rcases hq with ⟨hr3, rfl, F3, L3, rfl, hM3, hf3⟩ | ⟨hr3, rfl, rfl⟩
                · refine gx_istore C _ dd_Mo_trim_163 (kk := ?_)
                  refine gx_iinc C 1 (nI (65 * i + (j + 1))) _ dd_Mo_trim_165 (nI_1 _) (kk := ?_)
                  refine gx_goto C 79 dd_Mo_trim_168 (kk := ?_)
                  refine gx_loc [0, 2, 3, 4] ?_
                  exact ihj (j + 1) F3 L3 (by omega) (by rw [tr_ar_y hx hti, mk_br, if_pos hr3]; exact hM3) (mo_w_tr hw1 (mo_w_fr hf3)) (mn_ok_k (hf3.2.2.2 58 (by decide)).1 (hf3.2.2.2 57 (by decide)).2 hmn) (mr_k (hf3.2.2.2 59 (by decide)).1 hmr) (by rw [tr_ar_y hx hti]; exact mb_brs hso) (by rw [tr_ar_y hx hti]; exact mb_brb hab (by show pc_P (tr_P (σ.1 i)) (x.1 / 1024) * 1024 + x.1 / 16 % 64 * 16 + pc_P (tr_P (σ.1 i)) (x.1 % 16) < _; omega) (by show x.2 < _; omega))
                · refine gx_istore C _ dd_Mo_trim_163 (kk := ?_)
                  refine gx_iinc C 1 (nI (65 * i + (j + 1))) _ dd_Mo_trim_165 (nI_1 _) (kk := ?_)
                  refine gx_goto C 79 dd_Mo_trim_168 (kk := ?_)
                  refine gx_loc [0, 2, 3, 4] ?_
                  exact ihj (j + 1) F1 L1 (by omega) (by rw [tr_ar_y hx hti, mk_br, if_neg (by rw [hr3]; decide)]; exact hM1) hw1 hmn hmr (by rw [tr_ar_y hx hti]; exact mb_brs hso) (by rw [tr_ar_y hx hti]; exact mb_brb hab (by show pc_P (tr_P (σ.1 i)) (x.1 / 1024) * 1024 + x.1 / 16 % 64 * 16 + pc_P (tr_P (σ.1 i)) (x.1 % 16) < _; omega) (by show x.2 < _; omega))
        exact arcs (am_ar (σ.1 i)).length 0 F4 L4 (by omega) (by rw [hts]; exact hM4) hw4 hmn4 hmr4 List.Pairwise.nil (fun x hx => absurd hx List.not_mem_nil)
      · obtain ⟨xa, hst⟩ : ∃ xa, am_st (σ.1 i) = some xa := by
          rcases hst : am_st (σ.1 i) with _ | xa
          · refine absurd ?_ h0
            have hPn : ∀ q, tr_P (σ.1 i) q = false := fun q => by
              unfold tr_P
              rw [tr_a_none (fun x hx => (hok.1.2.2.1 x hx).1) hst q]
              rfl
            have hz : ∀ n, pc_P (tr_P (σ.1 i)) n = 0 := by
              intro n
              induction n with
              | zero => rfl
              | succ n ihn =>
                show pc_P (tr_P (σ.1 i)) n + (tr_P (σ.1 i) n).toNat = 0
                rw [ihn, hPn n]
                rfl
            exact hz 16
          · exact ⟨xa, rfl⟩
        have hsq := (mo_w_is hw4 hi4 (hM i hi4)).2.1
        rw [hst] at hsq
        have hxab := hok.1.2.2.2.2 xa hst
        have hts : tr_st (σ.1 i) (tr_P (σ.1 i)) = some (pc_P (tr_P (σ.1 i)) xa.1, xa.2) := by
          unfold tr_st
          rw [if_neg h0, hst]
          rfl
        refine gx_if_le C 74 dd_Mo_trim_43 (fun h43 => absurd ((nI_leI (a := pc_P (tr_P (σ.1 i)) 16) (b := 0) (by have := pc_P_le (tr_P (σ.1 i)) 16; omega) (by decide)).mp h43) (by omega)) (fun h43 => ?_)
        refine gx_aload_n C 0 dd_Mo_trim_46 (kk := ?_)
        refine mo_get C fd_Mo_13 dd_Mo_trim_47 (kk := ?_)
        refine gx_iconst (v := nI 4) C dd_Mo_trim_50 (kk := ?_)
        refine gx_aload_n C 0 dd_Mo_trim_51 (kk := ?_)
        refine gx_aload_n C 0 dd_Mo_trim_52 (kk := ?_)
        refine mo_get C fd_Mo_13 dd_Mo_trim_53 (kk := ?_)
        refine gx_iload_n C 1 dd_Mo_trim_56 (kk := ?_)
        refine mo_l45 C dd_Mo_trim_57 (by omega) (kk := ?_)
        refine gx_topi _ hsq.1 ?_
        refine gx_callV C (ct_Mo_rank (gx_l K) D dA ad h F4 L4 S hok hmr4 hmn4 (n0 := xa.1) (by omega)) me_Mo_rank ml_Mo_155 mn_Mo_rank _ (gx_w_at (by decide) mo_h_43) rfl dd_Mo_trim_58 (kk := fun v w hq => ?_)
        obtain ⟨rfl, rfl⟩ := hq
        refine mo_s45 C dd_Mo_trim_61 (by omega) (kk := fun F61 hF61 => ?_)
        refine gx_aload_n C 0 dd_Mo_trim_62 (kk := ?_)
        refine mo_get C fd_Mo_16 dd_Mo_trim_63 (kk := ?_)
        refine gx_iconst (v := nI 4) C dd_Mo_trim_66 (kk := ?_)
        refine gx_aload_n C 0 dd_Mo_trim_67 (kk := ?_)
        refine mo_get C fd_Mo_16 dd_Mo_trim_68 (kk := ?_)
        refine gx_iload_n C 1 dd_Mo_trim_71 (kk := ?_)
        refine mo_l46 C dd_Mo_trim_72 (by omega) (kk := ?_)
        refine gx_topl (lN xa.2) (by exact hsq.2) ?_
        refine mo_s46 C dd_Mo_trim_73 (by omega) (kk := fun L73 hL73 => ?_)
        refine gx_bipush (v := nI 65) C dd_Mo_trim_74 (kk := ?_)
        refine gx_iload_n C 1 dd_Mo_trim_76 (kk := ?_)
        refine gx_imul C dd_Mo_trim_77 (kk := ?_)
        refine gx_topi _ (pk_mul _ _) ?_
        refine gx_istore_n C _ dd_Mo_trim_78 (kk := ?_)
        have arcs : ∀ m j F1 L1, j + m = (am_ar (σ.1 i)).length → mo_is F1 L1 4 (pc_P (tr_P (σ.1 i)) 16, tr_st (σ.1 i) (tr_P (σ.1 i)), (fun _ => none), tr_ar (tr_P (σ.1 i)) (am_ar (σ.1 i)) j) → mo_w F L F1 L1 → mn_ok F1 L1 (σ.1 i) → mr_in F1 (tr_a (σ.1 i)) → am_so (tr_ar (tr_P (σ.1 i)) (am_ar (σ.1 i)) j) → (∀ x ∈ (tr_ar (tr_P (σ.1 i)) (am_ar (σ.1 i)) j), x.1 < 16384 ∧ x.2 < 35184372088832) → gx_G K D 5 0 0 79 [(3, .int (nI (65 * i + j))), (0, .ref (ad 43)), (1, .int (nI i)), (2, .int (nI k))] [] (gx_w ad (mo_h dA ad h F1 L1 S)) (gx_Z K D dA 0 0 (fun v w => ∃ F2 L2 S2, w = (gx_w ad (mo_h dA ad h F2 L2 S2)) ∧ rs F2 L2 S2 (o_trim σ (nI i) (nI k)).2 ∧ v = some (.int (o_trim σ (nI i) (nI k)).1))) := by
          intro m
          induction m with
          | zero =>
            intro j F1 L1 hj hM1 hw1 hmn hmr hso hab
            refine gx_iload_n C 0 dd_Mo_trim_79 (kk := ?_)
            refine gx_bipush (v := nI 65) C dd_Mo_trim_80 (kk := ?_)
            refine gx_iload_n C 2 dd_Mo_trim_82 (kk := ?_)
            refine gx_imul C dd_Mo_trim_83 (kk := ?_)
            refine gx_topi _ (pk_mul _ _) ?_
            refine gx_aload_n C 1 dd_Mo_trim_84 (kk := ?_)
            refine mo_get C fd_Mo_23 dd_Mo_trim_85 (kk := ?_)
            refine gx_iload_n C 2 dd_Mo_trim_88 (kk := ?_)
            refine mo_l48 C dd_Mo_trim_89 (by omega) (kk := ?_)
            refine gx_topi _ (mo_w_is hw1 hi4 (hM i hi4)).2.2.2.1 ?_
            refine gx_iadd C dd_Mo_trim_90 (kk := ?_)
            refine gx_topi _ (nI_add _ _) ?_
            refine gx_icmp_ge C 171 dd_Mo_trim_91 (fun h91 => ?_) (fun h91 => absurd (nI_le (a := 65 * i + (am_ar (σ.1 i)).length) (b := 65 * i + j) (by omega) (by omega)) h91)
            refine gx_iconst (v := nI 0) C dd_Mo_trim_171 (kk := ?_)
            refine gx_istore_n C _ dd_Mo_trim_172 (kk := ?_)
            obtain rfl : j = (am_ar (σ.1 i)).length := by omega
            have ends : ∀ m q L1, q + m = am_n (σ.1 i) → mo_is F1 L1 4 (pc_P (tr_P (σ.1 i)) 16, tr_st (σ.1 i) (tr_P (σ.1 i)), tr_es (σ.1 i) (tr_P (σ.1 i)) q, tr_ar (tr_P (σ.1 i)) (am_ar (σ.1 i)) (am_ar (σ.1 i)).length) → mo_w F L F1 L1 → mn_ok F1 L1 (σ.1 i) → mr_in F1 (tr_a (σ.1 i)) → gx_G K D 5 0 0 173 [(3, .int (nI q)), (0, .ref (ad 43)), (1, .int (nI i)), (2, .int (nI k))] [] (gx_w ad (mo_h dA ad h F1 L1 S)) (gx_Z K D dA 0 0 (fun v w => ∃ F2 L2 S2, w = (gx_w ad (mo_h dA ad h F2 L2 S2)) ∧ rs F2 L2 S2 (o_trim σ (nI i) (nI k)).2 ∧ v = some (.int (o_trim σ (nI i) (nI k)).1))) := by
              intro m
              induction m with
              | zero =>
                intro q L1 hq0 hM1 hw1 hmn hmr
                refine gx_iload_n C 0 dd_Mo_trim_173 (kk := ?_)
                refine gx_aload_n C 1 dd_Mo_trim_174 (kk := ?_)
                refine mo_get C fd_Mo_7 dd_Mo_trim_175 (kk := ?_)
                refine gx_iload_n C 2 dd_Mo_trim_178 (kk := ?_)
                refine mo_l44 C dd_Mo_trim_179 (by omega) (kk := ?_)
                refine gx_topi _ (mo_w_is hw1 hi4 (hM i hi4)).1 ?_
                refine gx_icmp_ge C 221 dd_Mo_trim_180 (fun h180 => ?_) (fun h180 => absurd (nI_le (a := am_n (σ.1 i)) (b := q) (by omega) (by omega)) h180)
                have hM9 : mo_is F1 L1 4 (pc_P (tr_P (σ.1 i)) 16, tr_st (σ.1 i) (tr_P (σ.1 i)), tr_es (σ.1 i) (tr_P (σ.1 i)) (am_n (σ.1 i)), tr_ar (tr_P (σ.1 i)) (am_ar (σ.1 i)) (am_ar (σ.1 i)).length) := by
                  rw [show q = am_n (σ.1 i) by omega] at hM1
                  exact hM1
                have hsb9 : ∀ x, tr_st (σ.1 i) (tr_P (σ.1 i)) = some x → x.1 < 16 ∧ x.2 < 35184372088832 := (tr_stb hok)
                refine gx_aload_n C 1 dd_Mo_trim_221 (kk := ?_)
                refine gx_iload_n C 3 dd_Mo_trim_222 (kk := ?_)
                refine gx_callV C (ct_Mo_keep (gx_l K) D dA ad h F1 L1 S (c := k) (B := 35184372088832) (b := (pc_P (tr_P (σ.1 i)) 16, tr_st (σ.1 i) (tr_P (σ.1 i)), tr_es (σ.1 i) (tr_P (σ.1 i)) (am_n (σ.1 i)), tr_ar (tr_P (σ.1 i)) (am_ar (σ.1 i)) (am_ar (σ.1 i)).length)) (by omega) hM9 (pc_P_le _ 16) (by decide) (fun x hx => (hab x hx).2) (tr_esb hok.1.2.2.2.1 _) hsb9) me_Mo_keep ml_Mo_126 mn_Mo_keep _ (gx_w_at (by decide) mo_h_43) rfl dd_Mo_trim_223 (kk := fun v w hq => ?_)
                obtain ⟨hfit, rfl, F7, L7, rfl, hM7, hf7⟩ := hq.resolve_right (fun e => absurd (e.1.symm.trans (tr_fit (P := tr_P (σ.1 i)) hok)) (by decide))
                refine gx_istore_n C _ dd_Mo_trim_226 (kk := ?_)
                refine gx_aload_n C 1 dd_Mo_trim_227 (kk := ?_)
                refine mo_get C fd_Mo_7 dd_Mo_trim_228 (kk := ?_)
                refine gx_iload_n C 3 dd_Mo_trim_231 (kk := ?_)
                refine mo_l44 C dd_Mo_trim_232 (by omega) (kk := ?_)
                refine gx_topi (nI (pc_P (tr_P (σ.1 i)) 16)) hM7.1 ?_
                refine gx_iret C dd_Mo_trim_233 ?_
                have hsp : o_trim σ (nI i) (nI k) = (nI (pc_P (tr_P (σ.1 i)) 16), o_set σ k (pc_P (tr_P (σ.1 i)) 16, tr_st (σ.1 i) (tr_P (σ.1 i)), tr_es (σ.1 i) (tr_P (σ.1 i)) (am_n (σ.1 i)), tr_ar (tr_P (σ.1 i)) (am_ar (σ.1 i)) (am_ar (σ.1 i)).length)) := by
                  unfold o_trim
                  simp only [hi, hk]
                  show (if am_fit (tr_mk (σ.1 i) (tr_P (σ.1 i))) = true then _ else _) = _
                  rw [if_pos (tr_fit hok)]
                  rfl
                rw [hsp]
                exact ⟨F7, L7, S, rfl, rs_set hf7 hM7 (mo_w_rs hw1 rfl rfl hr), rfl⟩
              | succ m ihq =>
                intro q L1 hq0 hM1 hw1 hmn hmr
                refine gx_iload_n C 0 dd_Mo_trim_173 (kk := ?_)
                refine gx_aload_n C 1 dd_Mo_trim_174 (kk := ?_)
                refine mo_get C fd_Mo_7 dd_Mo_trim_175 (kk := ?_)
                refine gx_iload_n C 2 dd_Mo_trim_178 (kk := ?_)
                refine mo_l44 C dd_Mo_trim_179 (by omega) (kk := ?_)
                refine gx_topi _ (mo_w_is hw1 hi4 (hM i hi4)).1 ?_
                refine gx_icmp_ge C 221 dd_Mo_trim_180 (fun h180 => absurd h180 (nI_ge (by omega) (by omega))) (fun h180 => ?_)
                refine gx_aload_n C 1 dd_Mo_trim_183 (kk := ?_)
                refine gx_iload_n C 0 dd_Mo_trim_184 (kk := ?_)
                refine gx_callV C (ct_Mo_isOnPath (gx_l K) D dA ad h F1 L1 S hok hmr hmn (q := q) (by omega)) me_Mo_isOnPath ml_Mo_159 mn_Mo_isOnPath _ (gx_w_at (by decide) mo_h_43) rfl dd_Mo_trim_185 (kk := fun v w hq => ?_)
                obtain ⟨rfl, rfl⟩ := hq
                rcases hPq : tr_P (σ.1 i) q with _ | _
                · refine gx_if_eq C 215 dd_Mo_trim_188 (fun h188 => ?_) (fun h188 => absurd rfl h188)
                  refine gx_iinc C 0 (nI (q + 1)) _ dd_Mo_trim_215 (nI_1 _) (kk := ?_)
                  refine gx_goto C 173 dd_Mo_trim_218 (kk := ?_)
                  exact ihq (q + 1) L1 (by omega) (by rw [tr_es_n hPq]; exact hM1) hw1 hmn hmr
                · have hpl := pc_P_le (tr_P (σ.1 i)) q
                  have heq0 := (mo_w_is hw1 hi4 (hM i hi4)).2.2.1 q (by omega)
                  refine gx_if_eq C 215 dd_Mo_trim_188 (fun h188 => absurd (show true = false from fb_0.mp h188) (by decide)) (fun h188 => ?_)
                  refine gx_aload_n C 1 dd_Mo_trim_191 (kk := ?_)
                  refine mo_get C fd_Mo_20 dd_Mo_trim_192 (kk := ?_)
                  refine gx_bipush (v := nI 64) C dd_Mo_trim_195 (kk := ?_)
                  refine gx_aload_n C 1 dd_Mo_trim_197 (kk := ?_)
                  refine gx_iload_n C 0 dd_Mo_trim_198 (kk := ?_)
                  refine gx_callV C (ct_Mo_rank (gx_l K) D dA ad h F1 L1 S hok hmr hmn (n0 := q) (by omega)) me_Mo_rank ml_Mo_155 mn_Mo_rank _ (gx_w_at (by decide) mo_h_43) rfl dd_Mo_trim_199 (kk := fun v w hq => ?_)
                  obtain ⟨rfl, rfl⟩ := hq
                  refine gx_iadd C dd_Mo_trim_202 (kk := ?_)
                  refine gx_topi _ (nI_add _ _) ?_
                  refine gx_aload_n C 1 dd_Mo_trim_203 (kk := ?_)
                  refine mo_get C fd_Mo_20 dd_Mo_trim_204 (kk := ?_)
                  refine gx_bipush (v := nI 16) C dd_Mo_trim_207 (kk := ?_)
                  refine gx_iload_n C 2 dd_Mo_trim_209 (kk := ?_)
                  refine gx_imul C dd_Mo_trim_210 (kk := ?_)
                  refine gx_topi _ (pk_mul _ _) ?_
                  refine gx_iload_n C 0 dd_Mo_trim_211 (kk := ?_)
                  refine gx_iadd C dd_Mo_trim_212 (kk := ?_)
                  refine gx_topi _ (nI_add _ _) ?_
                  refine mo_l47 C dd_Mo_trim_213 (by omega) (kk := ?_)
                  refine gx_topl _ heq0 ?_
                  refine mo_s47 C dd_Mo_trim_214 (by omega) (kk := fun L214 hL214 => ?_)
                  refine gx_iinc C 0 (nI (q + 1)) _ dd_Mo_trim_215 (nI_1 _) (kk := ?_)
                  refine gx_goto C 173 dd_Mo_trim_218 (kk := ?_)
                  have hM6 := mo_is_en (s := 4) (q := pc_P (tr_P (σ.1 i)) q) (o := am_en (σ.1 i) q) hL214 rfl hM1
                  exact ihq (q + 1) L214 (by omega) (by rw [tr_es_y hPq]; exact hM6) (mo_w_tr hw1 (mo_w_fr (mo_fr_47 (s := 4) (q := pc_P (tr_P (σ.1 i)) q) (by omega) hL214))) (mn_ok_k rfl (by rw [hL214, gm_un (by decide)]) hmn) hmr
            exact ends (am_n (σ.1 i)) 0 L1 (by omega) hM1 hw1 hmn hmr
          | succ m ihj =>
            intro j F1 L1 hj hM1 hw1 hmn hmr hso hab
            obtain ⟨x, hx⟩ : ∃ x, (am_ar (σ.1 i))[j]? = some x := ⟨_, List.getElem?_eq_getElem (by omega)⟩
            have hxa := (mo_w_is hw1 hi4 (hM i hi4)).2.2.2.2.1 j x hx
            have hxm := List.mem_of_getElem? hx
            have hxb := hok.1.2.2.1 x hxm
            have hp1 := pc_P_le (tr_P (σ.1 i)) (x.1 / 1024)
            have hp2 := pc_P_le (tr_P (σ.1 i)) (x.1 % 16)
            refine gx_iload_n C 0 dd_Mo_trim_79 (kk := ?_)
            refine gx_bipush (v := nI 65) C dd_Mo_trim_80 (kk := ?_)
            refine gx_iload_n C 2 dd_Mo_trim_82 (kk := ?_)
            refine gx_imul C dd_Mo_trim_83 (kk := ?_)
            refine gx_topi _ (pk_mul _ _) ?_
            refine gx_aload_n C 1 dd_Mo_trim_84 (kk := ?_)
            refine mo_get C fd_Mo_23 dd_Mo_trim_85 (kk := ?_)
            refine gx_iload_n C 2 dd_Mo_trim_88 (kk := ?_)
            refine mo_l48 C dd_Mo_trim_89 (by omega) (kk := ?_)
            refine gx_topi _ (mo_w_is hw1 hi4 (hM i hi4)).2.2.2.1 ?_
            refine gx_iadd C dd_Mo_trim_90 (kk := ?_)
            refine gx_topi _ (nI_add _ _) ?_
            refine gx_icmp_ge C 171 dd_Mo_trim_91 (fun h91 => absurd h91 (nI_ge (by omega) (by omega))) (fun h91 => ?_)
            refine gx_aload_n C 1 dd_Mo_trim_94 (kk := ?_)
            refine gx_aload_n C 1 dd_Mo_trim_95 (kk := ?_)
            refine mo_get C fd_Mo_26 dd_Mo_trim_96 (kk := ?_)
            refine gx_iload_n C 0 dd_Mo_trim_99 (kk := ?_)
            refine mo_l49 C dd_Mo_trim_100 (by omega) (kk := ?_)
            refine gx_topi _ hxa.1 ?_
            refine gx_callV C (ct_Mo_isOnPath (gx_l K) D dA ad h F1 L1 S hok hmr hmn (q := x.1 / 1024) (by omega)) me_Mo_isOnPath ml_Mo_159 mn_Mo_isOnPath _ (gx_w_at (by decide) mo_h_43) rfl dd_Mo_trim_101 (kk := fun v w hq => ?_)
            obtain ⟨rfl, rfl⟩ := hq
            rcases hPf : tr_P (σ.1 i) (x.1 / 1024) with _ | _
            · have hti : tr_i (tr_P (σ.1 i)) x = none := by
                unfold tr_i
                rw [hPf]
                rfl
              refine gx_if_eq C 165 dd_Mo_trim_104 (fun h104 => ?_) (fun h104 => absurd rfl h104)
              refine gx_iinc C 0 (nI (65 * i + (j + 1))) _ dd_Mo_trim_165 (nI_1 _) (kk := ?_)
              refine gx_goto C 79 dd_Mo_trim_168 (kk := ?_)
              exact ihj (j + 1) F1 L1 (by omega) (by rw [tr_ar_n hx hti]; exact hM1) hw1 hmn hmr (by rw [tr_ar_n hx hti]; exact hso) (by rw [tr_ar_n hx hti]; exact hab)
            · refine gx_if_eq C 165 dd_Mo_trim_104 (fun h104 => absurd (show true = false from fb_0.mp h104) (by decide)) (fun h104 => ?_)
              refine gx_aload_n C 1 dd_Mo_trim_107 (kk := ?_)
              refine gx_aload_n C 1 dd_Mo_trim_108 (kk := ?_)
              refine mo_get C fd_Mo_29 dd_Mo_trim_109 (kk := ?_)
              refine gx_iload_n C 0 dd_Mo_trim_112 (kk := ?_)
              refine mo_l50 C dd_Mo_trim_113 (by omega) (kk := ?_)
              refine gx_topi _ hxa.2.1 ?_
              refine gx_callV C (ct_Mo_isOnPath (gx_l K) D dA ad h F1 L1 S hok hmr hmn (q := x.1 % 16) (by omega)) me_Mo_isOnPath ml_Mo_159 mn_Mo_isOnPath _ (gx_w_at (by decide) mo_h_43) rfl dd_Mo_trim_114 (kk := fun v w hq => ?_)
              obtain ⟨rfl, rfl⟩ := hq
              rcases hPt : tr_P (σ.1 i) (x.1 % 16) with _ | _
              · have hti : tr_i (tr_P (σ.1 i)) x = none := by
                  unfold tr_i
                  rw [hPf, hPt]
                  rfl
                refine gx_if_eq C 165 dd_Mo_trim_117 (fun h117 => ?_) (fun h117 => absurd rfl h117)
                refine gx_iinc C 0 (nI (65 * i + (j + 1))) _ dd_Mo_trim_165 (nI_1 _) (kk := ?_)
                refine gx_goto C 79 dd_Mo_trim_168 (kk := ?_)
                exact ihj (j + 1) F1 L1 (by omega) (by rw [tr_ar_n hx hti]; exact hM1) hw1 hmn hmr (by rw [tr_ar_n hx hti]; exact hso) (by rw [tr_ar_n hx hti]; exact hab)
              · have hti : tr_i (tr_P (σ.1 i)) x = some (pc_P (tr_P (σ.1 i)) (x.1 / 1024) * 1024 + x.1 / 16 % 64 * 16 + pc_P (tr_P (σ.1 i)) (x.1 % 16), x.2) := by
                  unfold tr_i
                  rw [hPf, hPt]
                  rfl
                refine gx_if_eq C 165 dd_Mo_trim_117 (fun h117 => absurd (show true = false from fb_0.mp h117) (by decide)) (fun h117 => ?_)
                refine gx_aload_n C 1 dd_Mo_trim_120 (kk := ?_)
                refine gx_iconst (v := nI 4) C dd_Mo_trim_121 (kk := ?_)
                refine gx_aload_n C 1 dd_Mo_trim_122 (kk := ?_)
                refine gx_aload_n C 1 dd_Mo_trim_123 (kk := ?_)
                refine mo_get C fd_Mo_26 dd_Mo_trim_124 (kk := ?_)
                refine gx_iload_n C 0 dd_Mo_trim_127 (kk := ?_)
                refine mo_l49 C dd_Mo_trim_128 (by omega) (kk := ?_)
                refine gx_topi _ hxa.1 ?_
                refine gx_callV C (ct_Mo_rank (gx_l K) D dA ad h F1 L1 S hok hmr hmn (n0 := x.1 / 1024) (by omega)) me_Mo_rank ml_Mo_155 mn_Mo_rank _ (gx_w_at (by decide) mo_h_43) rfl dd_Mo_trim_129 (kk := fun v w hq => ?_)
                obtain ⟨rfl, rfl⟩ := hq
                refine gx_aload_n C 1 dd_Mo_trim_132 (kk := ?_)
                refine gx_aload_n C 1 dd_Mo_trim_133 (kk := ?_)
                refine mo_get C fd_Mo_29 dd_Mo_trim_134 (kk := ?_)
                refine gx_iload_n C 0 dd_Mo_trim_137 (kk := ?_)
                refine mo_l50 C dd_Mo_trim_138 (by omega) (kk := ?_)
                refine gx_topi _ hxa.2.1 ?_
                refine gx_callV C (ct_Mo_rank (gx_l K) D dA ad h F1 L1 S hok hmr hmn (n0 := x.1 % 16) (by omega)) me_Mo_rank ml_Mo_155 mn_Mo_rank _ (gx_w_at (by decide) mo_h_43) rfl dd_Mo_trim_139 (kk := fun v w hq => ?_)
                obtain ⟨rfl, rfl⟩ := hq
                refine gx_aload_n C 1 dd_Mo_trim_142 (kk := ?_)
                refine mo_get C fd_Mo_32 dd_Mo_trim_143 (kk := ?_)
                refine gx_iload_n C 0 dd_Mo_trim_146 (kk := ?_)
                refine mo_l51 C dd_Mo_trim_147 (by omega) (kk := ?_)
                refine gx_topi _ hxa.2.2.1 ?_
                refine gx_aload_n C 1 dd_Mo_trim_148 (kk := ?_)
                refine mo_get C fd_Mo_35 dd_Mo_trim_149 (kk := ?_)
                refine gx_iload_n C 0 dd_Mo_trim_152 (kk := ?_)
                refine mo_l52 C dd_Mo_trim_153 (by omega) (kk := ?_)
                refine gx_topi _ hxa.2.2.2.1 ?_
                refine gx_aload_n C 1 dd_Mo_trim_154 (kk := ?_)
                refine mo_get C fd_Mo_38 dd_Mo_trim_155 (kk := ?_)
                refine gx_iload_n C 0 dd_Mo_trim_158 (kk := ?_)
                refine mo_l53 C dd_Mo_trim_159 (by omega) (kk := ?_)
                refine gx_topl _ hxa.2.2.2.2 ?_
                refine gx_callV C (ct_Mo_put (gx_l K) D dA ad h F1 L1 S (s := 4) (f := pc_P (tr_P (σ.1 i)) (x.1 / 1024)) (t := pc_P (tr_P (σ.1 i)) (x.1 % 16)) (i := x.1 / 128 % 8) (o := x.1 / 16 % 8) (x0 := x.2) (B := 35184372088832) (a := (pc_P (tr_P (σ.1 i)) 16, tr_st (σ.1 i) (tr_P (σ.1 i)), (fun _ => none), tr_ar (tr_P (σ.1 i)) (am_ar (σ.1 i)) j)) (by decide) hM1 hso (fun z hz => (hab z hz).1) (fun z hz => (hab z hz).2) (by decide) (by omega) (by omega) (by omega) (by omega) (by omega)) me_Mo_put ml_Mo_99 mn_Mo_put _ (gx_w_at (by decide) mo_h_43) rfl dd_Mo_trim_160 (kk := fun v w hq => ?_)
                rw [show pr_k (pc_P (tr_P (σ.1 i)) (x.1 / 1024)) (x.1 / 128 % 8) (x.1 / 16 % 8) (pc_P (tr_P (σ.1 i)) (x.1 % 16)) = pc_P (tr_P (σ.1 i)) (x.1 / 1024) * 1024 + x.1 / 16 % 64 * 16 + pc_P (tr_P (σ.1 i)) (x.1 % 16) by unfold pr_k; omega] at hq
                rcases hq with ⟨hr3, rfl, F3, L3, rfl, hM3, hf3⟩ | ⟨hr3, rfl, rfl⟩
                · refine gx_istore C _ dd_Mo_trim_163 (kk := ?_)
                  refine gx_iinc C 1 (nI (65 * i + (j + 1))) _ dd_Mo_trim_165 (nI_1 _) (kk := ?_)
                  refine gx_goto C 79 dd_Mo_trim_168 (kk := ?_)
                  refine gx_loc [0, 2, 3, 4] ?_
                  exact ihj (j + 1) F3 L3 (by omega) (by rw [tr_ar_y hx hti, mk_br, if_pos hr3]; exact hM3) (mo_w_tr hw1 (mo_w_fr hf3)) (mn_ok_k (hf3.2.2.2 58 (by decide)).1 (hf3.2.2.2 57 (by decide)).2 hmn) (mr_k (hf3.2.2.2 59 (by decide)).1 hmr) (by rw [tr_ar_y hx hti]; exact mb_brs hso) (by rw [tr_ar_y hx hti]; exact mb_brb hab (by show pc_P (tr_P (σ.1 i)) (x.1 / 1024) * 1024 + x.1 / 16 % 64 * 16 + pc_P (tr_P (σ.1 i)) (x.1 % 16) < _; omega) (by show x.2 < _; omega))
                · refine gx_istore C _ dd_Mo_trim_163 (kk := ?_)
                  refine gx_iinc C 1 (nI (65 * i + (j + 1))) _ dd_Mo_trim_165 (nI_1 _) (kk := ?_)
                  refine gx_goto C 79 dd_Mo_trim_168 (kk := ?_)
                  refine gx_loc [0, 2, 3, 4] ?_
                  exact ihj (j + 1) F1 L1 (by omega) (by rw [tr_ar_y hx hti, mk_br, if_neg (by rw [hr3]; decide)]; exact hM1) hw1 hmn hmr (by rw [tr_ar_y hx hti]; exact mb_brs hso) (by rw [tr_ar_y hx hti]; exact mb_brb hab (by show pc_P (tr_P (σ.1 i)) (x.1 / 1024) * 1024 + x.1 / 16 % 64 * 16 + pc_P (tr_P (σ.1 i)) (x.1 % 16) < _; omega) (by show x.2 < _; omega))
        exact arcs (am_ar (σ.1 i)).length 0 F61 L73 (by omega) (by rw [hts]; exact mo_is_sq (o := some (pc_P (tr_P (σ.1 i)) xa.1, xa.2)) hF61 hL73 ⟨rfl, rfl⟩ hM4) (mo_w_tr hw4 (mo_w_fr (mo_fr_tr (mo_fr_45 hF61) (mo_fr_46 hL73)))) (mn_ok_k (by rw [hF61, gm_un (by decide)]) (by rw [hL73, gm_un (by decide)]) hmn4) (mr_k (by rw [hF61, gm_un (by decide)]) hmr4) List.Pairwise.nil (fun x hx => absurd hx List.not_mem_nil)
