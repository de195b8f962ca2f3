theorem dd_Mo_sizeOf_0 : decode cc_Mo_sizeOf 0 = .ok (.iconst 0, 1) := by decide +kernel
theorem dd_Mo_sizeOf_1 : decode cc_Mo_sizeOf 1 = .ok (.istore_n 1, 1) := by decide +kernel
theorem dd_Mo_sizeOf_2 : decode cc_Mo_sizeOf 2 = .ok (.iload_n 0, 1) := by decide +kernel
theorem dd_Mo_sizeOf_3 : decode cc_Mo_sizeOf 3 = .ok (.istore_n 2, 1) := by decide +kernel
theorem dd_Mo_sizeOf_4 : decode cc_Mo_sizeOf 4 = .ok (.iload_n 2, 1) := by decide +kernel
theorem dd_Mo_sizeOf_5 : decode cc_Mo_sizeOf 5 = .ok (.ifCond .le 38, 3) := by decide +kernel
theorem dd_Mo_sizeOf_8 : decode cc_Mo_sizeOf 8 = .ok (.iload_n 2, 1) := by decide +kernel
theorem dd_Mo_sizeOf_9 : decode cc_Mo_sizeOf 9 = .ok (.bipush 10, 2) := by decide +kernel
theorem dd_Mo_sizeOf_11 : decode cc_Mo_sizeOf 11 = .ok (.irem, 1) := by decide +kernel
theorem dd_Mo_sizeOf_12 : decode cc_Mo_sizeOf 12 = .ok (.ifCond .eq 18, 3) := by decide +kernel
theorem dd_Mo_sizeOf_15 : decode cc_Mo_sizeOf 15 = .ok (.iload_n 2, 1) := by decide +kernel
theorem dd_Mo_sizeOf_16 : decode cc_Mo_sizeOf 16 = .ok (.bipush 10, 2) := by decide +kernel
theorem dd_Mo_sizeOf_18 : decode cc_Mo_sizeOf 18 = .ok (.irem, 1) := by decide +kernel
theorem dd_Mo_sizeOf_19 : decode cc_Mo_sizeOf 19 = .ok (.bipush 7, 2) := by decide +kernel
theorem dd_Mo_sizeOf_21 : decode cc_Mo_sizeOf 21 = .ok (.if_icmp .gt 9, 3) := by decide +kernel
theorem dd_Mo_sizeOf_24 : decode cc_Mo_sizeOf 24 = .ok (.iload_n 1, 1) := by decide +kernel
theorem dd_Mo_sizeOf_25 : decode cc_Mo_sizeOf 25 = .ok (.bipush 8, 2) := by decide +kernel
theorem dd_Mo_sizeOf_27 : decode cc_Mo_sizeOf 27 = .ok (.if_icmp .ne 5, 3) := by decide +kernel
theorem dd_Mo_sizeOf_30 : decode cc_Mo_sizeOf 30 = .ok (.iconst (-1), 1) := by decide +kernel
theorem dd_Mo_sizeOf_31 : decode cc_Mo_sizeOf 31 = .ok (.ireturn, 1) := by decide +kernel
theorem dd_Mo_sizeOf_32 : decode cc_Mo_sizeOf 32 = .ok (.iinc 1 1, 3) := by decide +kernel
theorem dd_Mo_sizeOf_35 : decode cc_Mo_sizeOf 35 = .ok (.iload_n 2, 1) := by decide +kernel
theorem dd_Mo_sizeOf_36 : decode cc_Mo_sizeOf 36 = .ok (.bipush 10, 2) := by decide +kernel
theorem dd_Mo_sizeOf_38 : decode cc_Mo_sizeOf 38 = .ok (.idiv, 1) := by decide +kernel
theorem dd_Mo_sizeOf_39 : decode cc_Mo_sizeOf 39 = .ok (.istore_n 2, 1) := by decide +kernel
theorem dd_Mo_sizeOf_40 : decode cc_Mo_sizeOf 40 = .ok (.goto (-36), 3) := by decide +kernel
theorem dd_Mo_sizeOf_43 : decode cc_Mo_sizeOf 43 = .ok (.iload_n 0, 1) := by decide +kernel
theorem dd_Mo_sizeOf_44 : decode cc_Mo_sizeOf 44 = .ok (.ifCond .ge 7, 3) := by decide +kernel
theorem dd_Mo_sizeOf_47 : decode cc_Mo_sizeOf 47 = .ok (.iconst (-1), 1) := by decide +kernel
theorem dd_Mo_sizeOf_48 : decode cc_Mo_sizeOf 48 = .ok (.goto 4, 3) := by decide +kernel
theorem dd_Mo_sizeOf_51 : decode cc_Mo_sizeOf 51 = .ok (.iload_n 1, 1) := by decide +kernel
theorem dd_Mo_sizeOf_52 : decode cc_Mo_sizeOf 52 = .ok (.ireturn, 1) := by decide +kernel
theorem dd_Mo_labelAt_0 : decode cc_Mo_labelAt 0 = .ok (.iload_n 0, 1) := by decide +kernel
theorem dd_Mo_labelAt_1 : decode cc_Mo_labelAt 1 = .ok (.istore_n 3, 1) := by decide +kernel
theorem dd_Mo_labelAt_2 : decode cc_Mo_labelAt 2 = .ok (.iload_n 1, 1) := by decide +kernel
theorem dd_Mo_labelAt_3 : decode cc_Mo_labelAt 3 = .ok (.iconst 1, 1) := by decide +kernel
theorem dd_Mo_labelAt_4 : decode cc_Mo_labelAt 4 = .ok (.isub, 1) := by decide +kernel
theorem dd_Mo_labelAt_5 : decode cc_Mo_labelAt 5 = .ok (.istore 4, 2) := by decide +kernel
theorem dd_Mo_labelAt_7 : decode cc_Mo_labelAt 7 = .ok (.iload 4, 2) := by decide +kernel
theorem dd_Mo_labelAt_9 : decode cc_Mo_labelAt 9 = .ok (.iload_n 2, 1) := by decide +kernel
theorem dd_Mo_labelAt_10 : decode cc_Mo_labelAt 10 = .ok (.if_icmp .le 14, 3) := by decide +kernel
theorem dd_Mo_labelAt_13 : decode cc_Mo_labelAt 13 = .ok (.iload_n 3, 1) := by decide +kernel
theorem dd_Mo_labelAt_14 : decode cc_Mo_labelAt 14 = .ok (.bipush 10, 2) := by decide +kernel
theorem dd_Mo_labelAt_16 : decode cc_Mo_labelAt 16 = .ok (.idiv, 1) := by decide +kernel
theorem dd_Mo_labelAt_17 : decode cc_Mo_labelAt 17 = .ok (.istore_n 3, 1) := by decide +kernel
theorem dd_Mo_labelAt_18 : decode cc_Mo_labelAt 18 = .ok (.iinc 4 (-1), 3) := by decide +kernel
theorem dd_Mo_labelAt_21 : decode cc_Mo_labelAt 21 = .ok (.goto (-14), 3) := by decide +kernel
theorem dd_Mo_labelAt_24 : decode cc_Mo_labelAt 24 = .ok (.iload_n 3, 1) := by decide +kernel
theorem dd_Mo_labelAt_25 : decode cc_Mo_labelAt 25 = .ok (.bipush 10, 2) := by decide +kernel
theorem dd_Mo_labelAt_27 : decode cc_Mo_labelAt 27 = .ok (.irem, 1) := by decide +kernel
theorem dd_Mo_labelAt_28 : decode cc_Mo_labelAt 28 = .ok (.ireturn, 1) := by decide +kernel
theorem dd_Mo_relax_0 : decode cc_Mo_relax 0 = .ok (.iconst 0, 1) := by decide +kernel
theorem dd_Mo_relax_1 : decode cc_Mo_relax 1 = .ok (.istore_n 2, 1) := by decide +kernel
theorem dd_Mo_relax_2 : decode cc_Mo_relax 2 = .ok (.bipush 65, 2) := by decide +kernel
theorem dd_Mo_relax_4 : decode cc_Mo_relax 4 = .ok (.iload_n 1, 1) := by decide +kernel
theorem dd_Mo_relax_5 : decode cc_Mo_relax 5 = .ok (.imul, 1) := by decide +kernel
theorem dd_Mo_relax_6 : decode cc_Mo_relax 6 = .ok (.istore_n 3, 1) := by decide +kernel
theorem dd_Mo_relax_7 : decode cc_Mo_relax 7 = .ok (.iload_n 3, 1) := by decide +kernel
theorem dd_Mo_relax_8 : decode cc_Mo_relax 8 = .ok (.bipush 65, 2) := by decide +kernel
theorem dd_Mo_relax_10 : decode cc_Mo_relax 10 = .ok (.iload_n 1, 1) := by decide +kernel
theorem dd_Mo_relax_11 : decode cc_Mo_relax 11 = .ok (.imul, 1) := by decide +kernel
theorem dd_Mo_relax_12 : decode cc_Mo_relax 12 = .ok (.aload_n 0, 1) := by decide +kernel
theorem dd_Mo_relax_13 : decode cc_Mo_relax 13 = .ok (.getfield 23, 3) := by decide +kernel
theorem dd_Mo_relax_16 : decode cc_Mo_relax 16 = .ok (.iload_n 1, 1) := by decide +kernel
theorem dd_Mo_relax_17 : decode cc_Mo_relax 17 = .ok (.iaload, 1) := by decide +kernel
theorem dd_Mo_relax_18 : decode cc_Mo_relax 18 = .ok (.iadd, 1) := by decide +kernel
theorem dd_Mo_relax_19 : decode cc_Mo_relax 19 = .ok (.if_icmp .ge 261, 3) := by decide +kernel
theorem dd_Mo_relax_22 : decode cc_Mo_relax 22 = .ok (.iconst 0, 1) := by decide +kernel
theorem dd_Mo_relax_23 : decode cc_Mo_relax 23 = .ok (.istore 4, 2) := by decide +kernel
theorem dd_Mo_relax_25 : decode cc_Mo_relax 25 = .ok (.iload 4, 2) := by decide +kernel
theorem dd_Mo_relax_27 : decode cc_Mo_relax 27 = .ok (.aload_n 0, 1) := by decide +kernel
theorem dd_Mo_relax_28 : decode cc_Mo_relax 28 = .ok (.getfield 162, 3) := by decide +kernel
theorem dd_Mo_relax_31 : decode cc_Mo_relax 31 = .ok (.if_icmp .gt 243, 3) := by decide +kernel
theorem dd_Mo_relax_34 : decode cc_Mo_relax 34 = .ok (.iconst 0, 1) := by decide +kernel
theorem dd_Mo_relax_35 : decode cc_Mo_relax 35 = .ok (.istore 5, 2) := by decide +kernel
theorem dd_Mo_relax_37 : decode cc_Mo_relax 37 = .ok (.iload 5, 2) := by decide +kernel
theorem dd_Mo_relax_39 : decode cc_Mo_relax 39 = .ok (.aload_n 0, 1) := by decide +kernel
theorem dd_Mo_relax_40 : decode cc_Mo_relax 40 = .ok (.getfield 165, 3) := by decide +kernel
theorem dd_Mo_relax_43 : decode cc_Mo_relax 43 = .ok (.if_icmp .gt 225, 3) := by decide +kernel
theorem dd_Mo_relax_46 : decode cc_Mo_relax 46 = .ok (.aload_n 0, 1) := by decide +kernel
theorem dd_Mo_relax_47 : decode cc_Mo_relax 47 = .ok (.getfield 60, 3) := by decide +kernel
theorem dd_Mo_relax_50 : decode cc_Mo_relax 50 = .ok (.bipush 81, 2) := by decide +kernel
theorem dd_Mo_relax_52 : decode cc_Mo_relax 52 = .ok (.aload_n 0, 1) := by decide +kernel
theorem dd_Mo_relax_53 : decode cc_Mo_relax 53 = .ok (.getfield 26, 3) := by decide +kernel
theorem dd_Mo_relax_56 : decode cc_Mo_relax 56 = .ok (.iload_n 3, 1) := by decide +kernel
theorem dd_Mo_relax_57 : decode cc_Mo_relax 57 = .ok (.iaload, 1) := by decide +kernel
theorem dd_Mo_relax_58 : decode cc_Mo_relax 58 = .ok (.imul, 1) := by decide +kernel
theorem dd_Mo_relax_59 : decode cc_Mo_relax 59 = .ok (.bipush 9, 2) := by decide +kernel
theorem dd_Mo_relax_61 : decode cc_Mo_relax 61 = .ok (.iload 4, 2) := by decide +kernel
theorem dd_Mo_relax_63 : decode cc_Mo_relax 63 = .ok (.imul, 1) := by decide +kernel
theorem dd_Mo_relax_64 : decode cc_Mo_relax 64 = .ok (.iadd, 1) := by decide +kernel
theorem dd_Mo_relax_65 : decode cc_Mo_relax 65 = .ok (.iload 5, 2) := by decide +kernel
theorem dd_Mo_relax_67 : decode cc_Mo_relax 67 = .ok (.iadd, 1) := by decide +kernel
theorem dd_Mo_relax_68 : decode cc_Mo_relax 68 = .ok (.laload, 1) := by decide +kernel
theorem dd_Mo_relax_69 : decode cc_Mo_relax 69 = .ok (.lstore 6, 2) := by decide +kernel
theorem dd_Mo_relax_71 : decode cc_Mo_relax 71 = .ok (.aload_n 0, 1) := by decide +kernel
theorem dd_Mo_relax_72 : decode cc_Mo_relax 72 = .ok (.getfield 32, 3) := by decide +kernel
theorem dd_Mo_relax_75 : decode cc_Mo_relax 75 = .ok (.iload_n 3, 1) := by decide +kernel
theorem dd_Mo_relax_76 : decode cc_Mo_relax 76 = .ok (.iaload, 1) := by decide +kernel
theorem dd_Mo_relax_77 : decode cc_Mo_relax 77 = .ok (.ifCond .eq 28, 3) := by decide +kernel
theorem dd_Mo_relax_80 : decode cc_Mo_relax 80 = .ok (.iload 4, 2) := by decide +kernel
theorem dd_Mo_relax_82 : decode cc_Mo_relax 82 = .ok (.aload_n 0, 1) := by decide +kernel
theorem dd_Mo_relax_83 : decode cc_Mo_relax 83 = .ok (.getfield 162, 3) := by decide +kernel
theorem dd_Mo_relax_86 : decode cc_Mo_relax 86 = .ok (.if_icmp .ge 23, 3) := by decide +kernel
theorem dd_Mo_relax_89 : decode cc_Mo_relax 89 = .ok (.aload_n 0, 1) := by decide +kernel
theorem dd_Mo_relax_90 : decode cc_Mo_relax 90 = .ok (.getfield 63, 3) := by decide +kernel
theorem dd_Mo_relax_93 : decode cc_Mo_relax 93 = .ok (.iload 4, 2) := by decide +kernel
theorem dd_Mo_relax_95 : decode cc_Mo_relax 95 = .ok (.iaload, 1) := by decide +kernel
theorem dd_Mo_relax_96 : decode cc_Mo_relax 96 = .ok (.aload_n 0, 1) := by decide +kernel
theorem dd_Mo_relax_97 : decode cc_Mo_relax 97 = .ok (.getfield 32, 3) := by decide +kernel
theorem dd_Mo_relax_100 : decode cc_Mo_relax 100 = .ok (.iload_n 3, 1) := by decide +kernel
theorem dd_Mo_relax_101 : decode cc_Mo_relax 101 = .ok (.iaload, 1) := by decide +kernel
theorem dd_Mo_relax_102 : decode cc_Mo_relax 102 = .ok (.if_icmp .ne 7, 3) := by decide +kernel
theorem dd_Mo_relax_105 : decode cc_Mo_relax 105 = .ok (.iconst 1, 1) := by decide +kernel
theorem dd_Mo_relax_106 : decode cc_Mo_relax 106 = .ok (.goto 4, 3) := by decide +kernel
theorem dd_Mo_relax_109 : decode cc_Mo_relax 109 = .ok (.iconst 0, 1) := by decide +kernel
theorem dd_Mo_relax_110 : decode cc_Mo_relax 110 = .ok (.istore 8, 2) := by decide +kernel
theorem dd_Mo_relax_112 : decode cc_Mo_relax 112 = .ok (.aload_n 0, 1) := by decide +kernel
theorem dd_Mo_relax_113 : decode cc_Mo_relax 113 = .ok (.getfield 35, 3) := by decide +kernel
theorem dd_Mo_relax_116 : decode cc_Mo_relax 116 = .ok (.iload_n 3, 1) := by decide +kernel
theorem dd_Mo_relax_117 : decode cc_Mo_relax 117 = .ok (.iaload, 1) := by decide +kernel
theorem dd_Mo_relax_118 : decode cc_Mo_relax 118 = .ok (.ifCond .eq 28, 3) := by decide +kernel
theorem dd_Mo_relax_121 : decode cc_Mo_relax 121 = .ok (.iload 5, 2) := by decide +kernel
theorem dd_Mo_relax_123 : decode cc_Mo_relax 123 = .ok (.aload_n 0, 1) := by decide +kernel
theorem dd_Mo_relax_124 : decode cc_Mo_relax 124 = .ok (.getfield 165, 3) := by decide +kernel
theorem dd_Mo_relax_127 : decode cc_Mo_relax 127 = .ok (.if_icmp .ge 23, 3) := by decide +kernel
theorem dd_Mo_relax_130 : decode cc_Mo_relax 130 = .ok (.aload_n 0, 1) := by decide +kernel
theorem dd_Mo_relax_131 : decode cc_Mo_relax 131 = .ok (.getfield 66, 3) := by decide +kernel
theorem dd_Mo_relax_134 : decode cc_Mo_relax 134 = .ok (.iload 5, 2) := by decide +kernel
theorem dd_Mo_relax_136 : decode cc_Mo_relax 136 = .ok (.iaload, 1) := by decide +kernel
theorem dd_Mo_relax_137 : decode cc_Mo_relax 137 = .ok (.aload_n 0, 1) := by decide +kernel
theorem dd_Mo_relax_138 : decode cc_Mo_relax 138 = .ok (.getfield 35, 3) := by decide +kernel
theorem dd_Mo_relax_141 : decode cc_Mo_relax 141 = .ok (.iload_n 3, 1) := by decide +kernel
theorem dd_Mo_relax_142 : decode cc_Mo_relax 142 = .ok (.iaload, 1) := by decide +kernel
theorem dd_Mo_relax_143 : decode cc_Mo_relax 143 = .ok (.if_icmp .ne 7, 3) := by decide +kernel
theorem dd_Mo_relax_146 : decode cc_Mo_relax 146 = .ok (.iconst 1, 1) := by decide +kernel
theorem dd_Mo_relax_147 : decode cc_Mo_relax 147 = .ok (.goto 4, 3) := by decide +kernel
theorem dd_Mo_relax_150 : decode cc_Mo_relax 150 = .ok (.iconst 0, 1) := by decide +kernel
theorem dd_Mo_relax_151 : decode cc_Mo_relax 151 = .ok (.istore 9, 2) := by decide +kernel
theorem dd_Mo_relax_153 : decode cc_Mo_relax 153 = .ok (.bipush 81, 2) := by decide +kernel
theorem dd_Mo_relax_155 : decode cc_Mo_relax 155 = .ok (.aload_n 0, 1) := by decide +kernel
theorem dd_Mo_relax_156 : decode cc_Mo_relax 156 = .ok (.getfield 29, 3) := by decide +kernel
theorem dd_Mo_relax_159 : decode cc_Mo_relax 159 = .ok (.iload_n 3, 1) := by decide +kernel
theorem dd_Mo_relax_160 : decode cc_Mo_relax 160 = .ok (.iaload, 1) := by decide +kernel
theorem dd_Mo_relax_161 : decode cc_Mo_relax 161 = .ok (.imul, 1) := by decide +kernel
theorem dd_Mo_relax_162 : decode cc_Mo_relax 162 = .ok (.bipush 9, 2) := by decide +kernel
theorem dd_Mo_relax_164 : decode cc_Mo_relax 164 = .ok (.aload_n 0, 1) := by decide +kernel
theorem dd_Mo_relax_165 : decode cc_Mo_relax 165 = .ok (.getfield 32, 3) := by decide +kernel
theorem dd_Mo_relax_168 : decode cc_Mo_relax 168 = .ok (.iload_n 3, 1) := by decide +kernel
theorem dd_Mo_relax_169 : decode cc_Mo_relax 169 = .ok (.iaload, 1) := by decide +kernel
theorem dd_Mo_relax_170 : decode cc_Mo_relax 170 = .ok (.ifCond .ne 8, 3) := by decide +kernel
theorem dd_Mo_relax_173 : decode cc_Mo_relax 173 = .ok (.iload 4, 2) := by decide +kernel
theorem dd_Mo_relax_175 : decode cc_Mo_relax 175 = .ok (.goto 7, 3) := by decide +kernel
theorem dd_Mo_relax_178 : decode cc_Mo_relax 178 = .ok (.iload 4, 2) := by decide +kernel
theorem dd_Mo_relax_180 : decode cc_Mo_relax 180 = .ok (.iconst 1, 1) := by decide +kernel
theorem dd_Mo_relax_181 : decode cc_Mo_relax 181 = .ok (.iadd, 1) := by decide +kernel
theorem dd_Mo_relax_182 : decode cc_Mo_relax 182 = .ok (.imul, 1) := by decide +kernel
theorem dd_Mo_relax_183 : decode cc_Mo_relax 183 = .ok (.iadd, 1) := by decide +kernel
theorem dd_Mo_relax_184 : decode cc_Mo_relax 184 = .ok (.aload_n 0, 1) := by decide +kernel
theorem dd_Mo_relax_185 : decode cc_Mo_relax 185 = .ok (.getfield 35, 3) := by decide +kernel
theorem dd_Mo_relax_188 : decode cc_Mo_relax 188 = .ok (.iload_n 3, 1) := by decide +kernel
theorem dd_Mo_relax_189 : decode cc_Mo_relax 189 = .ok (.iaload, 1) := by decide +kernel
theorem dd_Mo_relax_190 : decode cc_Mo_relax 190 = .ok (.ifCond .ne 8, 3) := by decide +kernel
theorem dd_Mo_relax_193 : decode cc_Mo_relax 193 = .ok (.iload 5, 2) := by decide +kernel
theorem dd_Mo_relax_195 : decode cc_Mo_relax 195 = .ok (.goto 7, 3) := by decide +kernel
theorem dd_Mo_relax_198 : decode cc_Mo_relax 198 = .ok (.iload 5, 2) := by decide +kernel
theorem dd_Mo_relax_200 : decode cc_Mo_relax 200 = .ok (.iconst 1, 1) := by decide +kernel
theorem dd_Mo_relax_201 : decode cc_Mo_relax 201 = .ok (.iadd, 1) := by decide +kernel
theorem dd_Mo_relax_202 : decode cc_Mo_relax 202 = .ok (.iadd, 1) := by decide +kernel
theorem dd_Mo_relax_203 : decode cc_Mo_relax 203 = .ok (.istore 10, 2) := by decide +kernel
theorem dd_Mo_relax_205 : decode cc_Mo_relax 205 = .ok (.lload 6, 2) := by decide +kernel
theorem dd_Mo_relax_207 : decode cc_Mo_relax 207 = .ok (.ldc2_w 129, 3) := by decide +kernel
theorem dd_Mo_relax_210 : decode cc_Mo_relax 210 = .ok (.lcmp, 1) := by decide +kernel
theorem dd_Mo_relax_211 : decode cc_Mo_relax 211 = .ok (.ifCond .ge 51, 3) := by decide +kernel
theorem dd_Mo_relax_214 : decode cc_Mo_relax 214 = .ok (.iload 8, 2) := by decide +kernel
theorem dd_Mo_relax_216 : decode cc_Mo_relax 216 = .ok (.ifCond .eq 46, 3) := by decide +kernel
theorem dd_Mo_relax_219 : decode cc_Mo_relax 219 = .ok (.iload 9, 2) := by decide +kernel
theorem dd_Mo_relax_221 : decode cc_Mo_relax 221 = .ok (.ifCond .eq 41, 3) := by decide +kernel
theorem dd_Mo_relax_224 : decode cc_Mo_relax 224 = .ok (.lload 6, 2) := by decide +kernel
theorem dd_Mo_relax_226 : decode cc_Mo_relax 226 = .ok (.aload_n 0, 1) := by decide +kernel
theorem dd_Mo_relax_227 : decode cc_Mo_relax 227 = .ok (.getfield 38, 3) := by decide +kernel
theorem dd_Mo_relax_230 : decode cc_Mo_relax 230 = .ok (.iload_n 3, 1) := by decide +kernel
theorem dd_Mo_relax_231 : decode cc_Mo_relax 231 = .ok (.laload, 1) := by decide +kernel
theorem dd_Mo_relax_232 : decode cc_Mo_relax 232 = .ok (.ladd, 1) := by decide +kernel
theorem dd_Mo_relax_233 : decode cc_Mo_relax 233 = .ok (.aload_n 0, 1) := by decide +kernel
theorem dd_Mo_relax_234 : decode cc_Mo_relax 234 = .ok (.getfield 60, 3) := by decide +kernel
theorem dd_Mo_relax_237 : decode cc_Mo_relax 237 = .ok (.iload 10, 2) := by decide +kernel
theorem dd_Mo_relax_239 : decode cc_Mo_relax 239 = .ok (.laload, 1) := by decide +kernel
theorem dd_Mo_relax_240 : decode cc_Mo_relax 240 = .ok (.lcmp, 1) := by decide +kernel
theorem dd_Mo_relax_241 : decode cc_Mo_relax 241 = .ok (.ifCond .ge 21, 3) := by decide +kernel
theorem dd_Mo_relax_244 : decode cc_Mo_relax 244 = .ok (.aload_n 0, 1) := by decide +kernel
theorem dd_Mo_relax_245 : decode cc_Mo_relax 245 = .ok (.getfield 60, 3) := by decide +kernel
theorem dd_Mo_relax_248 : decode cc_Mo_relax 248 = .ok (.iload 10, 2) := by decide +kernel
theorem dd_Mo_relax_250 : decode cc_Mo_relax 250 = .ok (.lload 6, 2) := by decide +kernel
theorem dd_Mo_relax_252 : decode cc_Mo_relax 252 = .ok (.aload_n 0, 1) := by decide +kernel
theorem dd_Mo_relax_253 : decode cc_Mo_relax 253 = .ok (.getfield 38, 3) := by decide +kernel
theorem dd_Mo_relax_256 : decode cc_Mo_relax 256 = .ok (.iload_n 3, 1) := by decide +kernel
theorem dd_Mo_relax_257 : decode cc_Mo_relax 257 = .ok (.laload, 1) := by decide +kernel
theorem dd_Mo_relax_258 : decode cc_Mo_relax 258 = .ok (.ladd, 1) := by decide +kernel
theorem dd_Mo_relax_259 : decode cc_Mo_relax 259 = .ok (.lastore, 1) := by decide +kernel
theorem dd_Mo_relax_260 : decode cc_Mo_relax 260 = .ok (.iconst 1, 1) := by decide +kernel
theorem dd_Mo_relax_261 : decode cc_Mo_relax 261 = .ok (.istore_n 2, 1) := by decide +kernel
theorem dd_Mo_relax_262 : decode cc_Mo_relax 262 = .ok (.iinc 5 1, 3) := by decide +kernel
theorem dd_Mo_relax_265 : decode cc_Mo_relax 265 = .ok (.goto (-228), 3) := by decide +kernel
theorem dd_Mo_relax_268 : decode cc_Mo_relax 268 = .ok (.iinc 4 1, 3) := by decide +kernel
theorem dd_Mo_relax_271 : decode cc_Mo_relax 271 = .ok (.goto (-246), 3) := by decide +kernel
theorem dd_Mo_relax_274 : decode cc_Mo_relax 274 = .ok (.iinc 3 1, 3) := by decide +kernel
theorem dd_Mo_relax_277 : decode cc_Mo_relax 277 = .ok (.goto (-270), 3) := by decide +kernel
theorem dd_Mo_relax_280 : decode cc_Mo_relax 280 = .ok (.iload_n 2, 1) := by decide +kernel
theorem dd_Mo_relax_281 : decode cc_Mo_relax 281 = .ok (.ireturn, 1) := by decide +kernel
theorem dd_Mo_weigh_0 : decode cc_Mo_weigh 0 = .ok (.iload_n 1, 1) := by decide +kernel
theorem dd_Mo_weigh_1 : decode cc_Mo_weigh 1 = .ok (.invokestatic 81, 3) := by decide +kernel
theorem dd_Mo_weigh_4 : decode cc_Mo_weigh 4 = .ok (.ifCond .eq 26, 3) := by decide +kernel
theorem dd_Mo_weigh_7 : decode cc_Mo_weigh 7 = .ok (.iload_n 2, 1) := by decide +kernel
theorem dd_Mo_weigh_8 : decode cc_Mo_weigh 8 = .ok (.invokestatic 168, 3) := by decide +kernel
theorem dd_Mo_weigh_11 : decode cc_Mo_weigh 11 = .ok (.ifCond .lt 19, 3) := by decide +kernel
theorem dd_Mo_weigh_14 : decode cc_Mo_weigh 14 = .ok (.iload_n 3, 1) := by decide +kernel
theorem dd_Mo_weigh_15 : decode cc_Mo_weigh 15 = .ok (.invokestatic 168, 3) := by decide +kernel
theorem dd_Mo_weigh_18 : decode cc_Mo_weigh 18 = .ok (.ifCond .lt 12, 3) := by decide +kernel
theorem dd_Mo_weigh_21 : decode cc_Mo_weigh 21 = .ok (.aload_n 0, 1) := by decide +kernel
theorem dd_Mo_weigh_22 : decode cc_Mo_weigh 22 = .ok (.getfield 13, 3) := by decide +kernel
theorem dd_Mo_weigh_25 : decode cc_Mo_weigh 25 = .ok (.iload_n 1, 1) := by decide +kernel
theorem dd_Mo_weigh_26 : decode cc_Mo_weigh 26 = .ok (.iaload, 1) := by decide +kernel
theorem dd_Mo_weigh_27 : decode cc_Mo_weigh 27 = .ok (.ifCond .ge 7, 3) := by decide +kernel
theorem dd_Mo_weigh_30 : decode cc_Mo_weigh 30 = .ok (.ldc2_w 79, 3) := by decide +kernel
theorem dd_Mo_weigh_33 : decode cc_Mo_weigh 33 = .ok (.lreturn, 1) := by decide +kernel
theorem dd_Mo_weigh_34 : decode cc_Mo_weigh 34 = .ok (.aload_n 0, 1) := by decide +kernel
theorem dd_Mo_weigh_35 : decode cc_Mo_weigh 35 = .ok (.iload_n 2, 1) := by decide +kernel
theorem dd_Mo_weigh_36 : decode cc_Mo_weigh 36 = .ok (.invokestatic 168, 3) := by decide +kernel
theorem dd_Mo_weigh_39 : decode cc_Mo_weigh 39 = .ok (.putfield 162, 3) := by decide +kernel
theorem dd_Mo_weigh_42 : decode cc_Mo_weigh 42 = .ok (.aload_n 0, 1) := by decide +kernel
theorem dd_Mo_weigh_43 : decode cc_Mo_weigh 43 = .ok (.iload_n 3, 1) := by decide +kernel
theorem dd_Mo_weigh_44 : decode cc_Mo_weigh 44 = .ok (.invokestatic 168, 3) := by decide +kernel
theorem dd_Mo_weigh_47 : decode cc_Mo_weigh 47 = .ok (.putfield 165, 3) := by decide +kernel
theorem dd_Mo_weigh_50 : decode cc_Mo_weigh 50 = .ok (.iconst 0, 1) := by decide +kernel
theorem dd_Mo_weigh_51 : decode cc_Mo_weigh 51 = .ok (.istore 4, 2) := by decide +kernel
theorem dd_Mo_weigh_53 : decode cc_Mo_weigh 53 = .ok (.iload 4, 2) := by decide +kernel
theorem dd_Mo_weigh_55 : decode cc_Mo_weigh 55 = .ok (.bipush 8, 2) := by decide +kernel
theorem dd_Mo_weigh_57 : decode cc_Mo_weigh 57 = .ok (.if_icmp .ge 69, 3) := by decide +kernel
theorem dd_Mo_weigh_60 : decode cc_Mo_weigh 60 = .ok (.aload_n 0, 1) := by decide +kernel
theorem dd_Mo_weigh_61 : decode cc_Mo_weigh 61 = .ok (.getfield 63, 3) := by decide +kernel
theorem dd_Mo_weigh_64 : decode cc_Mo_weigh 64 = .ok (.iload 4, 2) := by decide +kernel
theorem dd_Mo_weigh_66 : decode cc_Mo_weigh 66 = .ok (.iload 4, 2) := by decide +kernel
theorem dd_Mo_weigh_68 : decode cc_Mo_weigh 68 = .ok (.aload_n 0, 1) := by decide +kernel
theorem dd_Mo_weigh_69 : decode cc_Mo_weigh 69 = .ok (.getfield 162, 3) := by decide +kernel
theorem dd_Mo_weigh_72 : decode cc_Mo_weigh 72 = .ok (.if_icmp .ge 16, 3) := by decide +kernel
theorem dd_Mo_weigh_75 : decode cc_Mo_weigh 75 = .ok (.iload_n 2, 1) := by decide +kernel
theorem dd_Mo_weigh_76 : decode cc_Mo_weigh 76 = .ok (.aload_n 0, 1) := by decide +kernel
theorem dd_Mo_weigh_77 : decode cc_Mo_weigh 77 = .ok (.getfield 162, 3) := by decide +kernel
theorem dd_Mo_weigh_80 : decode cc_Mo_weigh 80 = .ok (.iload 4, 2) := by decide +kernel
theorem dd_Mo_weigh_82 : decode cc_Mo_weigh 82 = .ok (.invokestatic 171, 3) := by decide +kernel
theorem dd_Mo_weigh_85 : decode cc_Mo_weigh 85 = .ok (.goto 4, 3) := by decide +kernel
theorem dd_Mo_weigh_88 : decode cc_Mo_weigh 88 = .ok (.iconst 0, 1) := by decide +kernel
theorem dd_Mo_weigh_89 : decode cc_Mo_weigh 89 = .ok (.iastore, 1) := by decide +kernel
theorem dd_Mo_weigh_90 : decode cc_Mo_weigh 90 = .ok (.aload_n 0, 1) := by decide +kernel
theorem dd_Mo_weigh_91 : decode cc_Mo_weigh 91 = .ok (.getfield 66, 3) := by decide +kernel
theorem dd_Mo_weigh_94 : decode cc_Mo_weigh 94 = .ok (.iload 4, 2) := by decide +kernel
theorem dd_Mo_weigh_96 : decode cc_Mo_weigh 96 = .ok (.iload 4, 2) := by decide +kernel
theorem dd_Mo_weigh_98 : decode cc_Mo_weigh 98 = .ok (.aload_n 0, 1) := by decide +kernel
theorem dd_Mo_weigh_99 : decode cc_Mo_weigh 99 = .ok (.getfield 165, 3) := by decide +kernel
theorem dd_Mo_weigh_102 : decode cc_Mo_weigh 102 = .ok (.if_icmp .ge 16, 3) := by decide +kernel
theorem dd_Mo_weigh_105 : decode cc_Mo_weigh 105 = .ok (.iload_n 3, 1) := by decide +kernel
theorem dd_Mo_weigh_106 : decode cc_Mo_weigh 106 = .ok (.aload_n 0, 1) := by decide +kernel
theorem dd_Mo_weigh_107 : decode cc_Mo_weigh 107 = .ok (.getfield 165, 3) := by decide +kernel
theorem dd_Mo_weigh_110 : decode cc_Mo_weigh 110 = .ok (.iload 4, 2) := by decide +kernel
theorem dd_Mo_weigh_112 : decode cc_Mo_weigh 112 = .ok (.invokestatic 171, 3) := by decide +kernel
theorem dd_Mo_weigh_115 : decode cc_Mo_weigh 115 = .ok (.goto 4, 3) := by decide +kernel
theorem dd_Mo_weigh_118 : decode cc_Mo_weigh 118 = .ok (.iconst 0, 1) := by decide +kernel
theorem dd_Mo_weigh_119 : decode cc_Mo_weigh 119 = .ok (.iastore, 1) := by decide +kernel
theorem dd_Mo_weigh_120 : decode cc_Mo_weigh 120 = .ok (.iinc 4 1, 3) := by decide +kernel
theorem dd_Mo_weigh_123 : decode cc_Mo_weigh 123 = .ok (.goto (-70), 3) := by decide +kernel
theorem dd_Mo_weigh_126 : decode cc_Mo_weigh 126 = .ok (.iconst 0, 1) := by decide +kernel
theorem dd_Mo_weigh_127 : decode cc_Mo_weigh 127 = .ok (.istore 4, 2) := by decide +kernel
theorem dd_Mo_weigh_129 : decode cc_Mo_weigh 129 = .ok (.iload 4, 2) := by decide +kernel
theorem dd_Mo_weigh_131 : decode cc_Mo_weigh 131 = .ok (.sipush 1296, 3) := by decide +kernel
theorem dd_Mo_weigh_134 : decode cc_Mo_weigh 134 = .ok (.if_icmp .ge 19, 3) := by decide +kernel
theorem dd_Mo_weigh_137 : decode cc_Mo_weigh 137 = .ok (.aload_n 0, 1) := by decide +kernel
theorem dd_Mo_weigh_138 : decode cc_Mo_weigh 138 = .ok (.getfield 60, 3) := by decide +kernel
theorem dd_Mo_weigh_141 : decode cc_Mo_weigh 141 = .ok (.iload 4, 2) := by decide +kernel
theorem dd_Mo_weigh_143 : decode cc_Mo_weigh 143 = .ok (.ldc2_w 129, 3) := by decide +kernel
theorem dd_Mo_weigh_146 : decode cc_Mo_weigh 146 = .ok (.lastore, 1) := by decide +kernel
theorem dd_Mo_weigh_147 : decode cc_Mo_weigh 147 = .ok (.iinc 4 1, 3) := by decide +kernel
theorem dd_Mo_weigh_150 : decode cc_Mo_weigh 150 = .ok (.goto (-21), 3) := by decide +kernel
theorem dd_Mo_weigh_153 : decode cc_Mo_weigh 153 = .ok (.aload_n 0, 1) := by decide +kernel
theorem dd_Mo_weigh_154 : decode cc_Mo_weigh 154 = .ok (.getfield 60, 3) := by decide +kernel
theorem dd_Mo_weigh_157 : decode cc_Mo_weigh 157 = .ok (.bipush 81, 2) := by decide +kernel
theorem dd_Mo_weigh_159 : decode cc_Mo_weigh 159 = .ok (.aload_n 0, 1) := by decide +kernel
theorem dd_Mo_weigh_160 : decode cc_Mo_weigh 160 = .ok (.getfield 13, 3) := by decide +kernel
theorem dd_Mo_weigh_163 : decode cc_Mo_weigh 163 = .ok (.iload_n 1, 1) := by decide +kernel
theorem dd_Mo_weigh_164 : decode cc_Mo_weigh 164 = .ok (.iaload, 1) := by decide +kernel
theorem dd_Mo_weigh_165 : decode cc_Mo_weigh 165 = .ok (.imul, 1) := by decide +kernel
theorem dd_Mo_weigh_166 : decode cc_Mo_weigh 166 = .ok (.aload_n 0, 1) := by decide +kernel
theorem dd_Mo_weigh_167 : decode cc_Mo_weigh 167 = .ok (.getfield 16, 3) := by decide +kernel
theorem dd_Mo_weigh_170 : decode cc_Mo_weigh 170 = .ok (.iload_n 1, 1) := by decide +kernel
theorem dd_Mo_weigh_171 : decode cc_Mo_weigh 171 = .ok (.laload, 1) := by decide +kernel
theorem dd_Mo_weigh_172 : decode cc_Mo_weigh 172 = .ok (.lastore, 1) := by decide +kernel
theorem dd_Mo_weigh_173 : decode cc_Mo_weigh 173 = .ok (.iconst 1, 1) := by decide +kernel
theorem dd_Mo_weigh_174 : decode cc_Mo_weigh 174 = .ok (.istore 4, 2) := by decide +kernel
theorem dd_Mo_weigh_176 : decode cc_Mo_weigh 176 = .ok (.iconst 0, 1) := by decide +kernel
theorem dd_Mo_weigh_177 : decode cc_Mo_weigh 177 = .ok (.istore 5, 2) := by decide +kernel
theorem dd_Mo_weigh_179 : decode cc_Mo_weigh 179 = .ok (.iload 5, 2) := by decide +kernel
theorem dd_Mo_weigh_181 : decode cc_Mo_weigh 181 = .ok (.sipush 1300, 3) := by decide +kernel
theorem dd_Mo_weigh_184 : decode cc_Mo_weigh 184 = .ok (.if_icmp .ge 21, 3) := by decide +kernel
theorem dd_Mo_weigh_187 : decode cc_Mo_weigh 187 = .ok (.iload 4, 2) := by decide +kernel
theorem dd_Mo_weigh_189 : decode cc_Mo_weigh 189 = .ok (.ifCond .eq 16, 3) := by decide +kernel
theorem dd_Mo_weigh_192 : decode cc_Mo_weigh 192 = .ok (.aload_n 0, 1) := by decide +kernel
theorem dd_Mo_weigh_193 : decode cc_Mo_weigh 193 = .ok (.iload_n 1, 1) := by decide +kernel
theorem dd_Mo_weigh_194 : decode cc_Mo_weigh 194 = .ok (.invokevirtual 174, 3) := by decide +kernel
theorem dd_Mo_weigh_197 : decode cc_Mo_weigh 197 = .ok (.istore 4, 2) := by decide +kernel
theorem dd_Mo_weigh_199 : decode cc_Mo_weigh 199 = .ok (.iinc 5 1, 3) := by decide +kernel
theorem dd_Mo_weigh_202 : decode cc_Mo_weigh 202 = .ok (.goto (-23), 3) := by decide +kernel
theorem dd_Mo_weigh_205 : decode cc_Mo_weigh 205 = .ok (.ldc2_w 129, 3) := by decide +kernel
theorem dd_Mo_weigh_208 : decode cc_Mo_weigh 208 = .ok (.lstore 5, 2) := by decide +kernel
theorem dd_Mo_weigh_210 : decode cc_Mo_weigh 210 = .ok (.iconst 0, 1) := by decide +kernel
theorem dd_Mo_weigh_211 : decode cc_Mo_weigh 211 = .ok (.istore 7, 2) := by decide +kernel
theorem dd_Mo_weigh_213 : decode cc_Mo_weigh 213 = .ok (.iload 7, 2) := by decide +kernel
theorem dd_Mo_weigh_215 : decode cc_Mo_weigh 215 = .ok (.aload_n 0, 1) := by decide +kernel
theorem dd_Mo_weigh_216 : decode cc_Mo_weigh 216 = .ok (.getfield 7, 3) := by decide +kernel
theorem dd_Mo_weigh_219 : decode cc_Mo_weigh 219 = .ok (.iload_n 1, 1) := by decide +kernel
theorem dd_Mo_weigh_220 : decode cc_Mo_weigh 220 = .ok (.iaload, 1) := by decide +kernel
theorem dd_Mo_weigh_221 : decode cc_Mo_weigh 221 = .ok (.if_icmp .ge 87, 3) := by decide +kernel
theorem dd_Mo_weigh_224 : decode cc_Mo_weigh 224 = .ok (.aload_n 0, 1) := by decide +kernel
theorem dd_Mo_weigh_225 : decode cc_Mo_weigh 225 = .ok (.getfield 60, 3) := by decide +kernel
theorem dd_Mo_weigh_228 : decode cc_Mo_weigh 228 = .ok (.bipush 81, 2) := by decide +kernel
theorem dd_Mo_weigh_230 : decode cc_Mo_weigh 230 = .ok (.iload 7, 2) := by decide +kernel
theorem dd_Mo_weigh_232 : decode cc_Mo_weigh 232 = .ok (.imul, 1) := by decide +kernel
theorem dd_Mo_weigh_233 : decode cc_Mo_weigh 233 = .ok (.bipush 9, 2) := by decide +kernel
theorem dd_Mo_weigh_235 : decode cc_Mo_weigh 235 = .ok (.aload_n 0, 1) := by decide +kernel
theorem dd_Mo_weigh_236 : decode cc_Mo_weigh 236 = .ok (.getfield 162, 3) := by decide +kernel
theorem dd_Mo_weigh_239 : decode cc_Mo_weigh 239 = .ok (.imul, 1) := by decide +kernel
theorem dd_Mo_weigh_240 : decode cc_Mo_weigh 240 = .ok (.iadd, 1) := by decide +kernel
theorem dd_Mo_weigh_241 : decode cc_Mo_weigh 241 = .ok (.aload_n 0, 1) := by decide +kernel
theorem dd_Mo_weigh_242 : decode cc_Mo_weigh 242 = .ok (.getfield 165, 3) := by decide +kernel
theorem dd_Mo_weigh_245 : decode cc_Mo_weigh 245 = .ok (.iadd, 1) := by decide +kernel
theorem dd_Mo_weigh_246 : decode cc_Mo_weigh 246 = .ok (.laload, 1) := by decide +kernel
theorem dd_Mo_weigh_247 : decode cc_Mo_weigh 247 = .ok (.lstore 8, 2) := by decide +kernel
theorem dd_Mo_weigh_249 : decode cc_Mo_weigh 249 = .ok (.aload_n 0, 1) := by decide +kernel
theorem dd_Mo_weigh_250 : decode cc_Mo_weigh 250 = .ok (.getfield 20, 3) := by decide +kernel
theorem dd_Mo_weigh_253 : decode cc_Mo_weigh 253 = .ok (.bipush 16, 2) := by decide +kernel
theorem dd_Mo_weigh_255 : decode cc_Mo_weigh 255 = .ok (.iload_n 1, 1) := by decide +kernel
theorem dd_Mo_weigh_256 : decode cc_Mo_weigh 256 = .ok (.imul, 1) := by decide +kernel
theorem dd_Mo_weigh_257 : decode cc_Mo_weigh 257 = .ok (.iload 7, 2) := by decide +kernel
theorem dd_Mo_weigh_259 : decode cc_Mo_weigh 259 = .ok (.iadd, 1) := by decide +kernel
theorem dd_Mo_weigh_260 : decode cc_Mo_weigh 260 = .ok (.laload, 1) := by decide +kernel
theorem dd_Mo_weigh_261 : decode cc_Mo_weigh 261 = .ok (.lstore 10, 2) := by decide +kernel
theorem dd_Mo_weigh_263 : decode cc_Mo_weigh 263 = .ok (.lload 8, 2) := by decide +kernel
theorem dd_Mo_weigh_265 : decode cc_Mo_weigh 265 = .ok (.ldc2_w 129, 3) := by decide +kernel
theorem dd_Mo_weigh_268 : decode cc_Mo_weigh 268 = .ok (.lcmp, 1) := by decide +kernel
theorem dd_Mo_weigh_269 : decode cc_Mo_weigh 269 = .ok (.ifCond .ge 29, 3) := by decide +kernel
theorem dd_Mo_weigh_272 : decode cc_Mo_weigh 272 = .ok (.lload 10, 2) := by decide +kernel
theorem dd_Mo_weigh_274 : decode cc_Mo_weigh 274 = .ok (.lconst 0, 1) := by decide +kernel
theorem dd_Mo_weigh_275 : decode cc_Mo_weigh 275 = .ok (.lcmp, 1) := by decide +kernel
theorem dd_Mo_weigh_276 : decode cc_Mo_weigh 276 = .ok (.ifCond .lt 22, 3) := by decide +kernel
theorem dd_Mo_weigh_279 : decode cc_Mo_weigh 279 = .ok (.lload 8, 2) := by decide +kernel
theorem dd_Mo_weigh_281 : decode cc_Mo_weigh 281 = .ok (.lload 10, 2) := by decide +kernel
theorem dd_Mo_weigh_283 : decode cc_Mo_weigh 283 = .ok (.ladd, 1) := by decide +kernel
theorem dd_Mo_weigh_284 : decode cc_Mo_weigh 284 = .ok (.lload 5, 2) := by decide +kernel
theorem dd_Mo_weigh_286 : decode cc_Mo_weigh 286 = .ok (.lcmp, 1) := by decide +kernel
theorem dd_Mo_weigh_287 : decode cc_Mo_weigh 287 = .ok (.ifCond .ge 11, 3) := by decide +kernel
theorem dd_Mo_weigh_290 : decode cc_Mo_weigh 290 = .ok (.lload 8, 2) := by decide +kernel
theorem dd_Mo_weigh_292 : decode cc_Mo_weigh 292 = .ok (.lload 10, 2) := by decide +kernel
theorem dd_Mo_weigh_294 : decode cc_Mo_weigh 294 = .ok (.ladd, 1) := by decide +kernel
theorem dd_Mo_weigh_295 : decode cc_Mo_weigh 295 = .ok (.goto 5, 3) := by decide +kernel
theorem dd_Mo_weigh_298 : decode cc_Mo_weigh 298 = .ok (.lload 5, 2) := by decide +kernel
theorem dd_Mo_weigh_300 : decode cc_Mo_weigh 300 = .ok (.lstore 5, 2) := by decide +kernel
theorem dd_Mo_weigh_302 : decode cc_Mo_weigh 302 = .ok (.iinc 7 1, 3) := by decide +kernel
theorem dd_Mo_weigh_305 : decode cc_Mo_weigh 305 = .ok (.goto (-92), 3) := by decide +kernel
theorem dd_Mo_weigh_308 : decode cc_Mo_weigh 308 = .ok (.lload 5, 2) := by decide +kernel
theorem dd_Mo_weigh_310 : decode cc_Mo_weigh 310 = .ok (.ldc2_w 129, 3) := by decide +kernel
theorem dd_Mo_weigh_313 : decode cc_Mo_weigh 313 = .ok (.lcmp, 1) := by decide +kernel
theorem dd_Mo_weigh_314 : decode cc_Mo_weigh 314 = .ok (.ifCond .ge 8, 3) := by decide +kernel
theorem dd_Mo_weigh_317 : decode cc_Mo_weigh 317 = .ok (.lload 5, 2) := by decide +kernel
theorem dd_Mo_weigh_319 : decode cc_Mo_weigh 319 = .ok (.goto 6, 3) := by decide +kernel
theorem dd_Mo_weigh_322 : decode cc_Mo_weigh 322 = .ok (.ldc2_w 79, 3) := by decide +kernel
theorem dd_Mo_weigh_325 : decode cc_Mo_weigh 325 = .ok (.lreturn, 1) := by decide +kernel
/-! ROWS OF LABELS, as the reference reads them -/
theorem ro_dg_len : ∀ m x L, ro_dg m x = some L → L.length ≤ m
  | 0, x, L, h => by
    unfold ro_dg at h
    split at h
    · cases h; exact Nat.le_refl _
    · cases h
  | m + 1, x, L, h => by
    unfold ro_dg at h
    split at h
    · cases h; exact Nat.zero_le _
    · split at h
      · cases h
      · cases hr : ro_dg m (x / 10) with
        | none => rw [hr] at h; cases h
        | some M =>
          rw [hr] at h
          have h : some (x % 10 :: M) = some L := h
          cases h
          exact Nat.succ_le_succ (ro_dg_len m _ M hr)
theorem ro_dg_at : ∀ m x L, ro_dg m x = some L → ∀ t, t < L.length → L[t]? = some (x / 10 ^ t % 10) ∧ x / 10 ^ t % 10 < 8
  | 0, x, L, h, t, ht => by
    unfold ro_dg at h
    split at h
    · cases h; exact absurd ht (Nat.not_lt_zero _)
    · cases h
  | m + 1, x, L, h, t, ht => by
    unfold ro_dg at h
    split at h
    · cases h; exact absurd ht (Nat.not_lt_zero _)
    · split at h
      · cases h
      · cases hr : ro_dg m (x / 10) with
        | none => rw [hr] at h; cases h
        | some M =>
          rw [hr] at h
          have h : some (x % 10 :: M) = some L := h
          cases h
          cases t with
          | zero => exact ⟨by rw [Nat.pow_zero, Nat.div_one]; rfl, by rw [Nat.pow_zero, Nat.div_one]; omega⟩
          | succ t =>
            have ih := ro_dg_at m (x / 10) M hr t (by simpa using ht)
            rw [Nat.pow_succ, Nat.mul_comm, ← Nat.div_div_eq_div_mul]
            exact ih
theorem ro_dg_s {m x : Nat} (h0 : ¬ x = 0) (h1 : ¬ (x % 10 = 0 ∨ 7 < x % 10)) : ro_dg (m + 1) x = (ro_dg m (x / 10)).map (fun L => x % 10 :: L) := by
  show (if x = 0 then some [] else if x % 10 = 0 ∨ 7 < x % 10 then none else (ro_dg m (x / 10)).map (fun L => x % 10 :: L)) = _
  rw [if_neg h0, if_neg h1]
theorem ro_of_p {x : Nat} (h : x < 2 ^ 31) : ro_of (nI x) = ro_dg 8 x := by
  unfold ro_of
  rw [if_neg (nI_pos h), nI_clamp h]
set_option maxRecDepth 100000 in
set_option maxHeartbeats 4000000 in
theorem ct_Mo_sizeOf (l : Launch) (D : va_G) (dA : Nat → ClassId) (ws : va_W) (x : Int32) : gx_Ct l D dA yy_Mo_sizeOf cc_Mo_sizeOf 3 (some .int) 0 0 0 [.int x] ws (fun v w => v = some (.int (on_r ((ro_of x).map List.length))) ∧ w = ws) := by
  refine gx_of (by decide) (Nat.le_of_ble_eq_true rfl) (fun K C _ _ => ?_)
  by_cases hx0 : x < 0
  · refine gx_iconst (v := nI 0) C dd_Mo_sizeOf_0 (kk := ?_)
    refine gx_istore_n C _ dd_Mo_sizeOf_1 (kk := ?_)
    refine gx_iload_n C 1 dd_Mo_sizeOf_2 (kk := ?_)
    refine gx_istore_n C _ dd_Mo_sizeOf_3 (kk := ?_)
    refine gx_loc [1, 0, 2] ?_
    refine gx_iload_n C 1 dd_Mo_sizeOf_4 (kk := ?_)
    refine gx_if_le C 43 dd_Mo_sizeOf_5 (fun h5 => ?_) (fun h5 => absurd (Int32.le_of_lt hx0) h5)
    refine gx_iload_n C 2 dd_Mo_sizeOf_43 (kk := ?_)
    refine gx_if_ge C 51 dd_Mo_sizeOf_44 (fun h44 => absurd h44 (Int32.not_le.mpr hx0)) (fun h44 => ?_)
    refine gx_iconst (v := -1) C dd_Mo_sizeOf_47 (kk := ?_)
    refine gx_goto C 52 dd_Mo_sizeOf_48 (kk := ?_)
    refine gx_iret C dd_Mo_sizeOf_52 ?_
    have hro : ro_of x = none := if_pos hx0
    rw [hro]
    exact ⟨rfl, rfl⟩
  · obtain ⟨X, hX, rfl⟩ := nI_of hx0
    refine gx_iconst (v := nI 0) C dd_Mo_sizeOf_0 (kk := ?_)
    refine gx_istore_n C _ dd_Mo_sizeOf_1 (kk := ?_)
    refine gx_iload_n C 1 dd_Mo_sizeOf_2 (kk := ?_)
    refine gx_istore_n C _ dd_Mo_sizeOf_3 (kk := ?_)
    refine gx_loc [1, 0, 2] ?_
    have loop : ∀ m r P, P.length + m = 8 → r < 2 ^ 31 → ro_dg 8 X = (ro_dg m r).map (fun L => P ++ L) → gx_G K D 3 0 0 4 [(1, .int (nI P.length)), (2, .int (nI r)), (0, .int (nI X))] [] ws (gx_Z K D dA 0 0 (fun v w => v = some (.int (on_r ((ro_of (nI X)).map List.length))) ∧ w = ws)) := by
      intro m
      induction m with
      | zero =>
        intro r P hP hr hE
        refine gx_iload_n C 1 dd_Mo_sizeOf_4 (kk := ?_)
        rcases (show r = 0 ∨ (¬ r = 0 ∧ r % 10 = 0) ∨ (¬ r = 0 ∧ ¬ r % 10 = 0 ∧ 7 < r % 10) ∨ (¬ r = 0 ∧ ¬ r % 10 = 0 ∧ ¬ 7 < r % 10) by omega) with c1 | ⟨c1, c2⟩ | ⟨c1, c2, c3⟩ | ⟨c1, c2, c3⟩
        · refine gx_if_le C 43 dd_Mo_sizeOf_5 (fun h5 => ?_) (fun h5 => absurd (show nI r ≤ 0 by rw [c1]; decide) h5)
          refine gx_iload_n C 2 dd_Mo_sizeOf_43 (kk := ?_)
          refine gx_if_ge C 51 dd_Mo_sizeOf_44 (fun h44 => ?_) (fun h44 => absurd (nI_pos' (by omega)) h44)
          refine gx_iload_n C 0 dd_Mo_sizeOf_51 (kk := ?_)
          refine gx_iret C dd_Mo_sizeOf_52 ?_
          have hd : ro_dg 0 r = some [] := by
            unfold ro_dg
            rw [if_pos c1]
          rw [ro_of_p hX, hE, hd]
          show some (Value.int (nI P.length)) = some (Value.int (nI (P ++ []).length)) ∧ _
          rw [List.append_nil]
          exact ⟨rfl, rfl⟩
        · refine gx_if_le C 43 dd_Mo_sizeOf_5 (fun h5 => absurd h5 (by rw [show (0 : Int32) = nI 0 from rfl, nI_leI (by omega) (by decide)]; omega)) (fun h5 => ?_)
          refine gx_iload_n C 1 dd_Mo_sizeOf_8 (kk := ?_)
          refine gx_bipush (v := nI 10) C dd_Mo_sizeOf_9 (kk := ?_)
          refine gx_irem C dd_Mo_sizeOf_11 (kk := ?_)
          refine gx_topi _ (pk_rem (by omega) (by decide) (by decide)) ?_
          refine gx_if_eq C 30 dd_Mo_sizeOf_12 (fun h12 => ?_) (fun h12 => absurd (show nI (r % 10) = 0 by rw [c2]; rfl) h12)
          refine gx_iconst (v := -1) C dd_Mo_sizeOf_30 (kk := ?_)
          refine gx_iret C dd_Mo_sizeOf_31 ?_
          have hd : ro_dg 0 r = none := by
            unfold ro_dg
            rw [if_neg c1]
          rw [ro_of_p hX, hE, hd]
          exact ⟨rfl, rfl⟩
        · refine gx_if_le C 43 dd_Mo_sizeOf_5 (fun h5 => absurd h5 (by rw [show (0 : Int32) = nI 0 from rfl, nI_leI (by omega) (by decide)]; omega)) (fun h5 => ?_)
          refine gx_iload_n C 1 dd_Mo_sizeOf_8 (kk := ?_)
          refine gx_bipush (v := nI 10) C dd_Mo_sizeOf_9 (kk := ?_)
          refine gx_irem C dd_Mo_sizeOf_11 (kk := ?_)
          refine gx_topi _ (pk_rem (by omega) (by decide) (by decide)) ?_
          refine gx_if_eq C 30 dd_Mo_sizeOf_12 (fun h12 => absurd h12 (nI_ne0 (by omega) (by omega))) (fun h12 => ?_)
          refine gx_iload_n C 1 dd_Mo_sizeOf_15 (kk := ?_)
          refine gx_bipush (v := nI 10) C dd_Mo_sizeOf_16 (kk := ?_)
          refine gx_irem C dd_Mo_sizeOf_18 (kk := ?_)
          refine gx_topi _ (pk_rem (by omega) (by decide) (by decide)) ?_
          refine gx_bipush (v := nI 7) C dd_Mo_sizeOf_19 (kk := ?_)
          refine gx_icmp_gt C 30 dd_Mo_sizeOf_21 (fun h21 => ?_) (fun h21 => absurd (nI_lt (by omega) (by omega)) h21)
          refine gx_iconst (v := -1) C dd_Mo_sizeOf_30 (kk := ?_)
          refine gx_iret C dd_Mo_sizeOf_31 ?_
          have hd : ro_dg 0 r = none := by
            unfold ro_dg
            rw [if_neg c1]
          rw [ro_of_p hX, hE, hd]
          exact ⟨rfl, rfl⟩
        · refine gx_if_le C 43 dd_Mo_sizeOf_5 (fun h5 => absurd h5 (by rw [show (0 : Int32) = nI 0 from rfl, nI_leI (by omega) (by decide)]; omega)) (fun h5 => ?_)
          refine gx_iload_n C 1 dd_Mo_sizeOf_8 (kk := ?_)
          refine gx_bipush (v := nI 10) C dd_Mo_sizeOf_9 (kk := ?_)
          refine gx_irem C dd_Mo_sizeOf_11 (kk := ?_)
          refine gx_topi _ (pk_rem (by omega) (by decide) (by decide)) ?_
          refine gx_if_eq C 30 dd_Mo_sizeOf_12 (fun h12 => absurd h12 (nI_ne0 (by omega) (by omega))) (fun h12 => ?_)
          refine gx_iload_n C 1 dd_Mo_sizeOf_15 (kk := ?_)
          refine gx_bipush (v := nI 10) C dd_Mo_sizeOf_16 (kk := ?_)
          refine gx_irem C dd_Mo_sizeOf_18 (kk := ?_)
          refine gx_topi _ (pk_rem (by omega) (by decide) (by decide)) ?_
          refine gx_bipush (v := nI 7) C dd_Mo_sizeOf_19 (kk := ?_)
          refine gx_icmp_gt C 30 dd_Mo_sizeOf_21 (fun h21 => absurd h21 (nI_nlt (by omega) (by omega))) (fun h21 => ?_)
          refine gx_iload_n C 0 dd_Mo_sizeOf_24 (kk := ?_)
          refine gx_bipush (v := nI 8) C dd_Mo_sizeOf_25 (kk := ?_)
          refine gx_icmp_ne C 32 dd_Mo_sizeOf_27 (fun h27 => absurd (congrArg nI (show P.length = 8 by omega)) h27) (fun h27 => ?_)
          refine gx_iconst (v := -1) C dd_Mo_sizeOf_30 (kk := ?_)
          refine gx_iret C dd_Mo_sizeOf_31 ?_
          have hd : ro_dg 0 r = none := by
            unfold ro_dg
            rw [if_neg c1]
          rw [ro_of_p hX, hE, hd]
          exact ⟨rfl, rfl⟩
      | succ m ih =>
        intro r P hP hr hE
        refine gx_iload_n C 1 dd_Mo_sizeOf_4 (kk := ?_)
        rcases (show r = 0 ∨ (¬ r = 0 ∧ r % 10 = 0) ∨ (¬ r = 0 ∧ ¬ r % 10 = 0 ∧ 7 < r % 10) ∨ (¬ r = 0 ∧ ¬ r % 10 = 0 ∧ ¬ 7 < r % 10) by omega) with c1 | ⟨c1, c2⟩ | ⟨c1, c2, c3⟩ | ⟨c1, c2, c3⟩
        · refine gx_if_le C 43 dd_Mo_sizeOf_5 (fun h5 => ?_) (fun h5 => absurd (show nI r ≤ 0 by rw [c1]; decide) h5)
          refine gx_iload_n C 2 dd_Mo_sizeOf_43 (kk := ?_)
          refine gx_if_ge C 51 dd_Mo_sizeOf_44 (fun h44 => ?_) (fun h44 => absurd (nI_pos' (by omega)) h44)
          refine gx_iload_n C 0 dd_Mo_sizeOf_51 (kk := ?_)
          refine gx_iret C dd_Mo_sizeOf_52 ?_
          have hd : ro_dg (m + 1) r = some [] := by
            unfold ro_dg
            rw [if_pos c1]
          rw [ro_of_p hX, hE, hd]
          show some (Value.int (nI P.length)) = some (Value.int (nI (P ++ []).length)) ∧ _
          rw [List.append_nil]
          exact ⟨rfl, rfl⟩
        · refine gx_if_le C 43 dd_Mo_sizeOf_5 (fun h5 => absurd h5 (by rw [show (0 : Int32) = nI 0 from rfl, nI_leI (by omega) (by decide)]; omega)) (fun h5 => ?_)
          refine gx_iload_n C 1 dd_Mo_sizeOf_8 (kk := ?_)
          refine gx_bipush (v := nI 10) C dd_Mo_sizeOf_9 (kk := ?_)
          refine gx_irem C dd_Mo_sizeOf_11 (kk := ?_)
          refine gx_topi _ (pk_rem (by omega) (by decide) (by decide)) ?_
          refine gx_if_eq C 30 dd_Mo_sizeOf_12 (fun h12 => ?_) (fun h12 => absurd (show nI (r % 10) = 0 by rw [c2]; rfl) h12)
          refine gx_iconst (v := -1) C dd_Mo_sizeOf_30 (kk := ?_)
          refine gx_iret C dd_Mo_sizeOf_31 ?_
          have hd : ro_dg (m + 1) r = none := by
            unfold ro_dg
            rw [if_neg c1, if_pos (by omega)]
          rw [ro_of_p hX, hE, hd]
          exact ⟨rfl, rfl⟩
        · refine gx_if_le C 43 dd_Mo_sizeOf_5 (fun h5 => absurd h5 (by rw [show (0 : Int32) = nI 0 from rfl, nI_leI (by omega) (by decide)]; omega)) (fun h5 => ?_)
          refine gx_iload_n C 1 dd_Mo_sizeOf_8 (kk := ?_)
          refine gx_bipush (v := nI 10) C dd_Mo_sizeOf_9 (kk := ?_)
          refine gx_irem C dd_Mo_sizeOf_11 (kk := ?_)
          refine gx_topi _ (pk_rem (by omega) (by decide) (by decide)) ?_
          refine gx_if_eq C 30 dd_Mo_sizeOf_12 (fun h12 => absurd h12 (nI_ne0 (by omega) (by omega))) (fun h12 => ?_)
          refine gx_iload_n C 1 dd_Mo_sizeOf_15 (kk := ?_)
          refine gx_bipush (v := nI 10) C dd_Mo_sizeOf_16 (kk := ?_)
          refine gx_irem C dd_Mo_sizeOf_18 (kk := ?_)
          refine gx_topi _ (pk_rem (by omega) (by decide) (by decide)) ?_
          refine gx_bipush (v := nI 7) C dd_Mo_sizeOf_19 (kk := ?_)
          refine gx_icmp_gt C 30 dd_Mo_sizeOf_21 (fun h21 => ?_) (fun h21 => absurd (nI_lt (by omega) (by omega)) h21)
          refine gx_iconst (v := -1) C dd_Mo_sizeOf_30 (kk := ?_)
          refine gx_iret C dd_Mo_sizeOf_31 ?_
          have hd : ro_dg (m + 1) r = none := by
            unfold ro_dg
            rw [if_neg c1, if_pos (by omega)]
          rw [ro_of_p hX, hE, hd]
          exact ⟨rfl, rfl⟩
        · refine gx_if_le C 43 dd_Mo_sizeOf_5 (fun h5 => absurd h5 (by rw [show (0 : Int32) = nI 0 from rfl, nI_leI (by omega) (by decide)]; omega)) (fun h5 => ?_)
          refine gx_iload_n C 1 dd_Mo_sizeOf_8 (kk := ?_)
          refine gx_bipush (v := nI 10) C dd_Mo_sizeOf_9 (kk := ?_)
          refine gx_irem C dd_Mo_sizeOf_11 (kk := ?_)
          refine gx_topi _ (pk_rem (by omega) (by decide) (by decide)) ?_
          refine gx_if_eq C 30 dd_Mo_sizeOf_12 (fun h12 => absurd h12 (nI_ne0 (by omega) (by omega))) (fun h12 => ?_)
          refine gx_iload_n C 1 dd_Mo_sizeOf_15 (kk := ?_)
          refine gx_bipush (v := nI 10) C dd_Mo_sizeOf_16 (kk := ?_)
          refine gx_irem C dd_Mo_sizeOf_18 (kk := ?_)
          refine gx_topi _ (pk_rem (by omega) (by decide) (by decide)) ?_
          refine gx_bipush (v := nI 7) C dd_Mo_sizeOf_19 (kk := ?_)
          refine gx_icmp_gt C 30 dd_Mo_sizeOf_21 (fun h21 => absurd h21 (nI_nlt (by omega) (by omega))) (fun h21 => ?_)
          refine gx_iload_n C 0 dd_Mo_sizeOf_24 (kk := ?_)
          refine gx_bipush (v := nI 8) C dd_Mo_sizeOf_25 (kk := ?_)
          refine gx_icmp_ne C 32 dd_Mo_sizeOf_27 (fun h27 => ?_) (fun h27 => absurd ((nI_eq (by omega) (by decide)).mp h27) (by omega))
          refine gx_iinc C 0 (nI (P.length + 1)) _ dd_Mo_sizeOf_32 (nI_1 _) (kk := ?_)
          refine gx_iload_n C 1 dd_Mo_sizeOf_35 (kk := ?_)
          refine gx_bipush (v := nI 10) C dd_Mo_sizeOf_36 (kk := ?_)
          refine gx_idiv C dd_Mo_sizeOf_38 (kk := ?_)
          refine gx_topi _ (pk_div (by omega) (by decide) (by decide)) ?_
          refine gx_istore_n C _ dd_Mo_sizeOf_39 (kk := ?_)
          refine gx_goto C 4 dd_Mo_sizeOf_40 (kk := ?_)
          refine gx_loc [1, 0, 2] ?_
          have hE2 : ro_dg 8 X = (ro_dg m (r / 10)).map (fun L => (P ++ [r % 10]) ++ L) := by
            rw [hE, ro_dg_s c1 (by omega)]
            cases ro_dg m (r / 10) with
            | none => rfl
            | some M => simp
          have ih2 := ih (r / 10) (P ++ [r % 10]) (by rw [List.length_append]; show P.length + 1 + m = 8; omega) (by omega) hE2
          rw [List.length_append] at ih2
          exact ih2
    exact loop 8 X [] rfl hX (by cases ro_dg 8 X <;> rfl)
theorem dv_le (X t : Nat) : X / 10 ^ t ≤ X := Nat.div_le_self _ _
theorem dv_s {X n k : Nat} (h : k + 1 + 1 ≤ n) : X / 10 ^ (n - 1 - (k + 1)) / 10 = X / 10 ^ (n - 1 - k) := by
  rw [Nat.div_div_eq_div_mul, ← Nat.pow_succ, show (n - 1 - (k + 1)).succ = n - 1 - k by omega]
set_option maxRecDepth 100000 in
set_option maxHeartbeats 4000000 in
theorem ct_Mo_labelAt (l : Launch) (D : va_G) (dA : Nat → ClassId) (ws : va_W) {X n0 i : Nat} (hX : X < 2 ^ 31) (hn : n0 ≤ 8) (hi : i < n0) : gx_Ct l D dA yy_Mo_labelAt cc_Mo_labelAt 5 (some .int) 0 0 0 [.int (nI X), .int (nI n0), .int (nI i)] ws (fun v w => v = some (.int (nI (X / 10 ^ (n0 - 1 - i) % 10))) ∧ w = ws) := by
  refine gx_of (by decide) (Nat.le_of_ble_eq_true rfl) (fun K C _ _ => ?_)
  have loop : ∀ m k, k = i + m → k < n0 → gx_G K D 5 0 0 7 [(4, .int (nI k)), (3, .int (nI (X / 10 ^ (n0 - 1 - k)))), (0, .int (nI X)), (1, .int (nI n0)), (2, .int (nI i))] [] ws (gx_Z K D dA 0 0 (fun v w => v = some (.int (nI (X / 10 ^ (n0 - 1 - i) % 10))) ∧ w = ws)) := by
    intro m
    induction m with
    | zero =>
      intro k hk hkn
      have hdv := dv_le X (n0 - 1 - k)
      refine gx_iload C 0 dd_Mo_labelAt_7 (kk := ?_)
      refine gx_iload_n C 4 dd_Mo_labelAt_9 (kk := ?_)
      refine gx_icmp_le C 24 dd_Mo_labelAt_10 (fun h10 => ?_) (fun h10 => absurd (nI_le (by omega) (by omega)) h10)
      refine gx_iload_n C 1 dd_Mo_labelAt_24 (kk := ?_)
      refine gx_bipush (v := nI 10) C dd_Mo_labelAt_25 (kk := ?_)
      refine gx_irem C dd_Mo_labelAt_27 (kk := ?_)
      refine gx_topi _ (pk_rem (by omega) (by decide) (by decide)) ?_
      refine gx_iret C dd_Mo_labelAt_28 ?_
      rw [show k = i by omega]
      exact ⟨rfl, rfl⟩
    | succ m ih =>
      intro k hk hkn
      have hdv := dv_le X (n0 - 1 - k)
      refine gx_iload C 0 dd_Mo_labelAt_7 (kk := ?_)
      refine gx_iload_n C 4 dd_Mo_labelAt_9 (kk := ?_)
      refine gx_icmp_le C 24 dd_Mo_labelAt_10 (fun h10 => absurd h10 (nI_ge (by omega) (by omega))) (fun h10 => ?_)
      refine gx_iload_n C 1 dd_Mo_labelAt_13 (kk := ?_)
      refine gx_bipush (v := nI 10) C dd_Mo_labelAt_14 (kk := ?_)
      refine gx_idiv C dd_Mo_labelAt_16 (kk := ?_)
      refine gx_topi (nI (X / 10 ^ (n0 - 1 - (k - 1)))) (by rw [pk_div (by omega) (by decide) (by decide)]; exact congrArg nI (by obtain ⟨k2, rfl⟩ : ∃ k2, k = k2 + 1 := ⟨k - 1, by omega⟩; exact dv_s (by omega))) ?_
      refine gx_istore_n C _ dd_Mo_labelAt_17 (kk := ?_)
      refine gx_iinc C 1 (nI (k - 1)) _ dd_Mo_labelAt_18 (mo_dec (n := k) (m := k - 1) (by omega)) (kk := ?_)
      refine gx_goto C 7 dd_Mo_labelAt_21 (kk := ?_)
      exact ih (k - 1) (by omega) (by omega)
  refine gx_iload_n C 0 dd_Mo_labelAt_0 (kk := ?_)
  refine gx_istore_n C _ dd_Mo_labelAt_1 (kk := ?_)
  refine gx_iload_n C 2 dd_Mo_labelAt_2 (kk := ?_)
  refine gx_iconst (v := nI 1) C dd_Mo_labelAt_3 (kk := ?_)
  refine gx_isub C dd_Mo_labelAt_4 (kk := ?_)
  refine gx_topi (nI (n0 - 1)) (pk_sub (a := n0) (b := 1) (by omega)) ?_
  refine gx_istore C _ dd_Mo_labelAt_5 (kk := ?_)
  have h1 := loop (n0 - 1 - i) (n0 - 1) (by omega) (by omega)
  rw [show X / 10 ^ (n0 - 1 - (n0 - 1)) = X by rw [Nat.sub_self, Nat.pow_zero, Nat.div_one]] at h1
  exact h1
/-! THE TABLE -/
def mtb (L : mo_L) (v : ls_V) : Prop := ∀ q i j, q < 16 → i < 9 → j < 9 → L 60 (81 * q + 9 * i + j) = mf (v ((i * 9 + j) * 16 + q))
theorem mtb_up {L L2 : mo_L} {v : ls_V} {q i j : Nat} {o : Option Nat} {z : Int64} (hq : q < 16) (hi : i < 9) (hj : j < 9) (h : L2 = va_up L 60 (vp_updL (L 60) (81 * q + 9 * i + j) z)) (hz : z = mf o) (hv : mtb L v) : mtb L2 (va_up v ((i * 9 + j) * 16 + q) o) := by
  intro q2 i2 j2 h1 h2 h3
  rw [h, gm_us]
  by_cases he : q2 = q ∧ i2 = i ∧ j2 = j
  · obtain ⟨rfl, rfl, rfl⟩ := he
    rw [pk_uLs, gm_us, hz]
  · rw [pk_uLn (fun c => he (by omega)), gm_un (fun c => he (by omega))]
    exact hv q2 i2 j2 h1 h2 h3
def wJ (A B : List Nat) (x : Nat × Nat) (i j : Nat) : List ls_A := (List.range j).filterMap (fun j => we_xf A B i j x)
def wI (A B : List Nat) (x : Nat × Nat) (i : Nat) : List ls_A := (List.range i).flatMap (fun i => wJ A B x i (B.length + 1))
def wK (A B : List Nat) (l : List (Nat × Nat)) : List ls_A := l.flatMap (fun x => wI A B x (A.length + 1))
theorem ls_rd_app (E E2 : List ls_A) (v : ls_V) : ls_rd (E ++ E2) v = ls_rd E2 (ls_rd E v) := List.foldl_append
theorem wJ_n {A B : List Nat} {x : Nat × Nat} {i j : Nat} (h : we_xf A B i j x = none) : wJ A B x i (j + 1) = wJ A B x i j := by
  unfold wJ
  rw [List.range_succ, List.filterMap_append]
  simp [h]
theorem wJ_y {A B : List Nat} {x : Nat × Nat} {i j : Nat} {e : ls_A} (h : we_xf A B i j x = some e) : wJ A B x i (j + 1) = wJ A B x i j ++ [e] := by
  unfold wJ
  rw [List.range_succ, List.filterMap_append]
  simp [h]
theorem wI_s (A B : List Nat) (x : Nat × Nat) (i : Nat) : wI A B x (i + 1) = wI A B x i ++ wJ A B x i (B.length + 1) := by
  unfold wI
  rw [List.range_succ, List.flatMap_append, List.flatMap_singleton]
theorem wK_s {A B : List Nat} {l : List (Nat × Nat)} {k : Nat} {x : Nat × Nat} (h : l[k]? = some x) : wK A B (l.take (k + 1)) = wK A B (l.take k) ++ wI A B x (A.length + 1) := by
  unfold wK
  rw [List.take_add_one, h, Option.toList_some, List.flatMap_append, List.flatMap_singleton]
theorem wK_mem {A B : List Nat} {l : List (Nat × Nat)} {e : ls_A} : e ∈ wK A B l ↔ e ∈ we_E A B l := by
  rw [we_E_mem]
  unfold wK wI wJ
  simp only [List.mem_flatMap, List.mem_range, List.mem_filterMap]
  constructor
  · rintro ⟨x, hx, i, hi, j, hj, he⟩
    exact ⟨i, j, x, by omega, by omega, hx, he⟩
  · rintro ⟨i, j, x, hi, hj, hx, he⟩
    exact ⟨x, hx, i, by omega, j, by omega, he⟩
theorem ro_dn_0 {A : List Nat} {i : Nat} : ro_dn A i 0 = some i := if_pos rfl
theorem ro_dn_y {A : List Nat} {i b : Nat} (hb : ¬ b = 0) (h : A[i]? = some b) : ro_dn A i b = some (i + 1) := by
  unfold ro_dn
  rw [if_neg hb, if_pos h]
theorem ro_dn_n {A : List Nat} {i b : Nat} (hb : ¬ b = 0) (h : ¬ A[i]? = some b) : ro_dn A i b = none := by
  unfold ro_dn
  rw [if_neg hb, if_neg h]
def mrow (F : mo_F) (c : Nat) (A : List Nat) : Prop := (∀ j d, A[j]? = some d → F c j = nI d) ∧ A.length ≤ 8 ∧ ∀ d ∈ A, d < 8
set_option maxRecDepth 100000 in
set_option maxHeartbeats 4000000 in
theorem ct_Mo_relax (l : Launch) (D : va_G) (dA : Nat → ClassId) (ad : Nat → Nat) (h : Nat → va_E) (F : mo_F) (L : mo_L) (S : Nat → Int32) {ia B : Nat} {A : am_T} {A0 B0 : List Nat} {v0 : ls_V} (hia : ia < 4) (hA : mo_is F L ia A) (hAb : ∀ x ∈ am_ar A, x.1 < 16384 ∧ x.2 < 1000000001) (hS23 : S 23 = nI A0.length) (hS24 : S 24 = nI B0.length) (hr61 : mrow F 61 A0) (hr62 : mrow F 62 B0) (hmt : mtb L v0) (hB : sp_b B v0) (hBB : B + 5184 * 1000000001 < 4000000000000000000) : gx_Ct l D dA yy_Mo_relax cc_Mo_relax 11 (some .boolean) 0 0 0 [.ref (ad 43), .int (nI ia)] (gx_w ad (mo_h dA ad h F L S)) (fun v w => ∃ L2 v2, w = (gx_w ad (mo_h dA ad h F L2 S)) ∧ (∀ k, k ≠ 60 → L2 k = L k) ∧ mtb L2 v2 ∧ v2 = ls_rd (wK A0 B0 (am_ar A)) v0 ∧ sp_b (B + 5184 * 1000000001) v2 ∧ ∃ c, v = some (.int (nI c)) ∧ (c = 0 ∨ c = 1) ∧ (c = 0 → v2 = v0)) := by
  refine gx_of (by decide) (Nat.le_of_ble_eq_true rfl) (fun K C _ _ => ?_)
  have hla := hA.2.2.2.2.2
  have hl8 := hr61.2.1
  have hl9 := hr62.2.1
  have loopK : ∀ m k c v1 L1, k + m = (am_ar A).length → v1 = ls_rd (wK A0 B0 ((am_ar A).take k)) v0 → mtb L1 v1 → sp_b (B + (k * 81) * 1000000001) v1 → (c = 0 ∨ c = 1) → (c = 0 → v1 = v0) → (∀ k, k ≠ 60 → L1 k = L k) → gx_G K D 11 0 0 7 [(3, .int (nI (65 * ia + k))), (2, .int (nI c)), (0, .ref (ad 43)), (1, .int (nI ia))] [] (gx_w ad (mo_h dA ad h F L1 S)) (gx_Z K D dA 0 0 (fun v w => ∃ L2 v2, w = (gx_w ad (mo_h dA ad h F L2 S)) ∧ (∀ k, k ≠ 60 → L2 k = L k) ∧ mtb L2 v2 ∧ v2 = ls_rd (wK A0 B0 (am_ar A)) v0 ∧ sp_b (B + 5184 * 1000000001) v2 ∧ ∃ c, v = some (.int (nI c)) ∧ (c = 0 ∨ c = 1) ∧ (c = 0 → v2 = v0))) := by
    intro m
    induction m with
    | zero =>
      intro k c v1 L1 hk hv1 hmt hB1 hc01 hc0 hLk
      refine gx_iload_n C 0 dd_Mo_relax_7 (kk := ?_)
      refine gx_bipush (v := nI 65) C dd_Mo_relax_8 (kk := ?_)
      refine gx_iload_n C 3 dd_Mo_relax_10 (kk := ?_)
      refine gx_imul C dd_Mo_relax_11 (kk := ?_)
      refine gx_topi _ (pk_mul _ _) ?_
      refine gx_aload_n C 2 dd_Mo_relax_12 (kk := ?_)
      refine mo_get C fd_Mo_23 dd_Mo_relax_13 (kk := ?_)
      refine gx_iload_n C 3 dd_Mo_relax_16 (kk := ?_)
      refine mo_l48 C dd_Mo_relax_17 (by omega) (kk := ?_)
      refine gx_topi _ (mo_is_k (fun _ _ => rfl) (fun k hk => hLk k (by omega)) hA).2.2.2.1 ?_
      refine gx_iadd C dd_Mo_relax_18 (kk := ?_)
      refine gx_topi _ (nI_add _ _) ?_
      refine gx_icmp_ge C 280 dd_Mo_relax_19 (fun h19 => ?_) (fun h19 => absurd (nI_le (a := 65 * ia + (am_ar A).length) (b := 65 * ia + k) (by omega) (by omega)) h19)
      obtain ⟨b, rfl⟩ : ∃ b : Bool, c = b.toNat := by
        rcases hc01 with rfl | rfl
        · exact ⟨false, rfl⟩
        · exact ⟨true, rfl⟩
      refine gx_iload_n C 1 dd_Mo_relax_280 (kk := ?_)
      refine gx_zret C dd_Mo_relax_281 (by first | rfl | exact fb_nar) ?_
      rw [show k = (am_ar A).length by omega, List.take_length] at hv1
      exact ⟨L1, v1, rfl, hLk, hmt, hv1, sp_b_mono hB1 (by omega), _, rfl, hc01, hc0⟩
    | succ m ih =>
      intro k c v1 L1 hk hv1 hmt hB1 hc01 hc0 hLk
      obtain ⟨x, hx⟩ : ∃ x, (am_ar A)[k]? = some x := ⟨_, List.getElem?_eq_getElem (by omega)⟩
      have hxb := hAb x (List.mem_of_getElem? hx)
      refine gx_iload_n C 0 dd_Mo_relax_7 (kk := ?_)
      refine gx_bipush (v := nI 65) C dd_Mo_relax_8 (kk := ?_)
      refine gx_iload_n C 3 dd_Mo_relax_10 (kk := ?_)
      refine gx_imul C dd_Mo_relax_11 (kk := ?_)
      refine gx_topi _ (pk_mul _ _) ?_
      refine gx_aload_n C 2 dd_Mo_relax_12 (kk := ?_)
      refine mo_get C fd_Mo_23 dd_Mo_relax_13 (kk := ?_)
      refine gx_iload_n C 3 dd_Mo_relax_16 (kk := ?_)
      refine mo_l48 C dd_Mo_relax_17 (by omega) (kk := ?_)
      refine gx_topi _ (mo_is_k (fun _ _ => rfl) (fun k hk => hLk k (by omega)) hA).2.2.2.1 ?_
      refine gx_iadd C dd_Mo_relax_18 (kk := ?_)
      refine gx_topi _ (nI_add _ _) ?_
      refine gx_icmp_ge C 280 dd_Mo_relax_19 (fun h19 => absurd h19 (nI_ge (by omega) (by omega))) (fun h19 => ?_)
      refine gx_iconst (v := nI 0) C dd_Mo_relax_22 (kk := ?_)
      refine gx_istore C _ dd_Mo_relax_23 (kk := ?_)
      obtain ⟨vk, hvk⟩ : ∃ z, z = v1 := ⟨_, rfl⟩
      rw [← hvk] at hv1 hmt hB1 hc0
      clear hvk
      have hvk := hv1
      have loopI : ∀ m2 i c v1 L1, i + m2 = A0.length + 1 → v1 = ls_rd (wI A0 B0 x i) vk → mtb L1 v1 → sp_b (B + (k * 81 + i * 9) * 1000000001) v1 → (c = 0 ∨ c = 1) → (c = 0 → v1 = v0) → (∀ k, k ≠ 60 → L1 k = L k) → gx_G K D 11 0 0 25 [(4, .int (nI i)), (3, .int (nI (65 * ia + k))), (2, .int (nI c)), (0, .ref (ad 43)), (1, .int (nI ia))] [] (gx_w ad (mo_h dA ad h F L1 S)) (gx_Z K D dA 0 0 (fun v w => ∃ L2 v2, w = (gx_w ad (mo_h dA ad h F L2 S)) ∧ (∀ k, k ≠ 60 → L2 k = L k) ∧ mtb L2 v2 ∧ v2 = ls_rd (wK A0 B0 (am_ar A)) v0 ∧ sp_b (B + 5184 * 1000000001) v2 ∧ ∃ c, v = some (.int (nI c)) ∧ (c = 0 ∨ c = 1) ∧ (c = 0 → v2 = v0))) := by
        intro m2
        induction m2 with
        | zero =>
          intro i c v1 L1 hi hv1 hmt hB1 hc01 hc0 hLk
          refine gx_iload C 0 dd_Mo_relax_25 (kk := ?_)
          refine gx_aload_n C 3 dd_Mo_relax_27 (kk := ?_)
          refine mo_get C fd_Mo_162 dd_Mo_relax_28 (kk := ?_)
          refine gx_topi _ hS23 ?_
          refine gx_icmp_gt C 274 dd_Mo_relax_31 (fun h31 => ?_) (fun h31 => absurd (nI_lt (by omega) (by omega)) h31)
          refine gx_iinc C 1 (nI (65 * ia + (k + 1))) _ dd_Mo_relax_274 (nI_1 _) (kk := ?_)
          refine gx_goto C 7 dd_Mo_relax_277 (kk := ?_)
          refine gx_loc [0, 2, 3, 4] ?_
          rw [show i = A0.length + 1 by omega] at hv1
          exact ih (k + 1) c v1 L1 (by omega) (by rw [wK_s hx, ls_rd_app, ← hvk]; exact hv1) hmt (sp_b_mono hB1 (by omega)) hc01 hc0 hLk
        | succ m2 ihi =>
          intro i c v1 L1 hi hv1 hmt hB1 hc01 hc0 hLk
          refine gx_iload C 0 dd_Mo_relax_25 (kk := ?_)
          refine gx_aload_n C 3 dd_Mo_relax_27 (kk := ?_)
          refine mo_get C fd_Mo_162 dd_Mo_relax_28 (kk := ?_)
          refine gx_topi _ hS23 ?_
          refine gx_icmp_gt C 274 dd_Mo_relax_31 (fun h31 => absurd h31 (nI_nlt (by omega) (by omega))) (fun h31 => ?_)
          refine gx_iconst (v := nI 0) C dd_Mo_relax_34 (kk := ?_)
          refine gx_istore C _ dd_Mo_relax_35 (kk := ?_)
          obtain ⟨vi, hvi⟩ : ∃ z, z = v1 := ⟨_, rfl⟩
          rw [← hvi] at hv1 hmt hB1 hc0
          clear hvi
          have hvi := hv1
          have loopJ : ∀ m3 j c v1 L1, j + m3 = B0.length + 1 → v1 = ls_rd (wJ A0 B0 x i j) vi → mtb L1 v1 → sp_b (B + (k * 81 + i * 9 + j) * 1000000001) v1 → (c = 0 ∨ c = 1) → (c = 0 → v1 = v0) → (∀ k, k ≠ 60 → L1 k = L k) → gx_G K D 11 0 0 37 [(5, .int (nI j)), (4, .int (nI i)), (3, .int (nI (65 * ia + k))), (2, .int (nI c)), (0, .ref (ad 43)), (1, .int (nI ia))] [] (gx_w ad (mo_h dA ad h F L1 S)) (gx_Z K D dA 0 0 (fun v w => ∃ L2 v2, w = (gx_w ad (mo_h dA ad h F L2 S)) ∧ (∀ k, k ≠ 60 → L2 k = L k) ∧ mtb L2 v2 ∧ v2 = ls_rd (wK A0 B0 (am_ar A)) v0 ∧ sp_b (B + 5184 * 1000000001) v2 ∧ ∃ c, v = some (.int (nI c)) ∧ (c = 0 ∨ c = 1) ∧ (c = 0 → v2 = v0))) := by
            intro m3
            induction m3 with
            | zero =>
              intro j c v1 L1 hj hv1 hmt hB1 hc01 hc0 hLk
              refine gx_iload C 0 dd_Mo_relax_37 (kk := ?_)
              refine gx_aload_n C 4 dd_Mo_relax_39 (kk := ?_)
              refine mo_get C fd_Mo_165 dd_Mo_relax_40 (kk := ?_)
              refine gx_topi _ hS24 ?_
              refine gx_icmp_gt C 268 dd_Mo_relax_43 (fun h43 => ?_) (fun h43 => absurd (nI_lt (by omega) (by omega)) h43)
              refine gx_iinc C 1 (nI (i + 1)) _ dd_Mo_relax_268 (nI_1 _) (kk := ?_)
              refine gx_goto C 25 dd_Mo_relax_271 (kk := ?_)
              refine gx_loc [0, 2, 3, 4, 5] ?_
              rw [show j = B0.length + 1 by omega] at hv1
              exact ihi (i + 1) c v1 L1 (by omega) (by rw [wI_s, ls_rd_app, ← hvi]; exact hv1) hmt (sp_b_mono hB1 (by omega)) hc01 hc0 hLk
            | succ m3 ihj =>
              intro j c v1 L1 hj hv1 hmt hB1 hc01 hc0 hLk
              have hxa := (mo_is_k (fun _ _ => rfl) (fun k hk => hLk k (by omega)) hA).2.2.2.2.1 k x hx
              refine gx_iload C 0 dd_Mo_relax_37 (kk := ?_)
              refine gx_aload_n C 4 dd_Mo_relax_39 (kk := ?_)
              refine mo_get C fd_Mo_165 dd_Mo_relax_40 (kk := ?_)
              refine gx_topi _ hS24 ?_
              refine gx_icmp_gt C 268 dd_Mo_relax_43 (fun h43 => absurd h43 (nI_nlt (by omega) (by omega))) (fun h43 => ?_)
              refine gx_aload_n C 4 dd_Mo_relax_46 (kk := ?_)
              refine mo_get C fd_Mo_60 dd_Mo_relax_47 (kk := ?_)
              refine gx_bipush (v := nI 81) C dd_Mo_relax_50 (kk := ?_)
              refine gx_aload_n C 4 dd_Mo_relax_52 (kk := ?_)
              refine mo_get C fd_Mo_26 dd_Mo_relax_53 (kk := ?_)
              refine gx_iload_n C 2 dd_Mo_relax_56 (kk := ?_)
              refine mo_l49 C dd_Mo_relax_57 (by omega) (kk := ?_)
              refine gx_topi _ hxa.1 ?_
              refine gx_imul C dd_Mo_relax_58 (kk := ?_)
              refine gx_topi _ (pk_mul _ _) ?_
              refine gx_bipush (v := nI 9) C dd_Mo_relax_59 (kk := ?_)
              refine gx_iload C 1 dd_Mo_relax_61 (kk := ?_)
              refine gx_imul C dd_Mo_relax_63 (kk := ?_)
              refine gx_topi _ (pk_mul _ _) ?_
              refine gx_iadd C dd_Mo_relax_64 (kk := ?_)
              refine gx_topi _ (nI_add _ _) ?_
              refine gx_iload C 0 dd_Mo_relax_65 (kk := ?_)
              refine gx_iadd C dd_Mo_relax_67 (kk := ?_)
              refine gx_topi _ (nI_add _ _) ?_
              refine mo_l60 C dd_Mo_relax_68 (by omega) (kk := ?_)
              refine gx_topl _ (hmt (x.1 / 1024) i j (by omega) (by omega) (by omega)) ?_
              refine gx_lstore C _ dd_Mo_relax_69 (kk := ?_)
              rcases (show x.1 / 128 % 8 = 0 ∨ (¬ x.1 / 128 % 8 = 0 ∧ i < A0.length) ∨ (¬ x.1 / 128 % 8 = 0 ∧ A0.length ≤ i) by omega) with p1 | ⟨p1, p2⟩ | ⟨p1, p2⟩
              · have pd : ro_dn A0 i (x.1 / 128 % 8) = some i := by
                  rw [p1]
                  exact ro_dn_0
                refine gx_aload_n C 5 dd_Mo_relax_71 (kk := ?_)
                refine mo_get C fd_Mo_32 dd_Mo_relax_72 (kk := ?_)
                refine gx_iload_n C 3 dd_Mo_relax_75 (kk := ?_)
                refine mo_l51 C dd_Mo_relax_76 (by omega) (kk := ?_)
                refine gx_topi _ hxa.2.2.1 ?_
                refine gx_if_eq C 105 dd_Mo_relax_77 (fun h77 => ?_) (fun h77 => absurd (show nI (x.1 / 128 % 8) = 0 by rw [p1]; rfl) h77)
                refine gx_iconst (v := nI 1) C dd_Mo_relax_105 (kk := ?_)
                refine gx_goto C 110 dd_Mo_relax_106 (kk := ?_)
                refine gx_istore C _ dd_Mo_relax_110 (kk := ?_)
                rcases (show x.1 / 16 % 8 = 0 ∨ (¬ x.1 / 16 % 8 = 0 ∧ j < B0.length) ∨ (¬ x.1 / 16 % 8 = 0 ∧ B0.length ≤ j) by omega) with r1 | ⟨r1, r2⟩ | ⟨r1, r2⟩
                · have rd : ro_dn B0 j (x.1 / 16 % 8) = some j := by
                    rw [r1]
                    exact ro_dn_0
                  refine gx_aload_n C 6 dd_Mo_relax_112 (kk := ?_)
                  refine mo_get C fd_Mo_35 dd_Mo_relax_113 (kk := ?_)
                  refine gx_iload_n C 4 dd_Mo_relax_116 (kk := ?_)
                  refine mo_l52 C dd_Mo_relax_117 (by omega) (kk := ?_)
                  refine gx_topi _ hxa.2.2.2.1 ?_
                  refine gx_if_eq C 146 dd_Mo_relax_118 (fun h118 => ?_) (fun h118 => absurd (show nI (x.1 / 16 % 8) = 0 by rw [r1]; rfl) h118)
                  refine gx_iconst (v := nI 1) C dd_Mo_relax_146 (kk := ?_)
                  refine gx_goto C 151 dd_Mo_relax_147 (kk := ?_)
                  refine gx_istore C _ dd_Mo_relax_151 (kk := ?_)
                  refine gx_bipush (v := nI 81) C dd_Mo_relax_153 (kk := ?_)
                  refine gx_aload_n C 7 dd_Mo_relax_155 (kk := ?_)
                  refine mo_get C fd_Mo_29 dd_Mo_relax_156 (kk := ?_)
                  refine gx_iload_n C 5 dd_Mo_relax_159 (kk := ?_)
                  refine mo_l50 C dd_Mo_relax_160 (by omega) (kk := ?_)
                  refine gx_topi _ hxa.2.1 ?_
                  refine gx_imul C dd_Mo_relax_161 (kk := ?_)
                  refine gx_topi _ (pk_mul _ _) ?_
                  refine gx_bipush (v := nI 9) C dd_Mo_relax_162 (kk := ?_)
                  refine gx_aload_n C 7 dd_Mo_relax_164 (kk := ?_)
                  refine mo_get C fd_Mo_32 dd_Mo_relax_165 (kk := ?_)
                  refine gx_iload_n C 5 dd_Mo_relax_168 (kk := ?_)
                  refine mo_l51 C dd_Mo_relax_169 (by omega) (kk := ?_)
                  refine gx_topi _ hxa.2.2.1 ?_
                  refine gx_if_ne C 178 dd_Mo_relax_170 (fun h170 => absurd (show nI (x.1 / 128 % 8) = 0 by rw [p1]; rfl) h170) (fun h170 => ?_)
                  refine gx_iload C 4 dd_Mo_relax_173 (kk := ?_)
                  refine gx_goto C 182 dd_Mo_relax_175 (kk := ?_)
                  refine gx_imul C dd_Mo_relax_182 (kk := ?_)
                  refine gx_topi _ (pk_mul _ _) ?_
                  refine gx_iadd C dd_Mo_relax_183 (kk := ?_)
                  refine gx_topi _ (nI_add _ _) ?_
                  refine gx_aload_n C 7 dd_Mo_relax_184 (kk := ?_)
                  refine mo_get C fd_Mo_35 dd_Mo_relax_185 (kk := ?_)
                  refine gx_iload_n C 5 dd_Mo_relax_188 (kk := ?_)
                  refine mo_l52 C dd_Mo_relax_189 (by omega) (kk := ?_)
                  refine gx_topi _ hxa.2.2.2.1 ?_
                  refine gx_if_ne C 198 dd_Mo_relax_190 (fun h190 => absurd (show nI (x.1 / 16 % 8) = 0 by rw [r1]; rfl) h190) (fun h190 => ?_)
                  refine gx_iload C 3 dd_Mo_relax_193 (kk := ?_)
                  refine gx_goto C 202 dd_Mo_relax_195 (kk := ?_)
                  refine gx_iadd C dd_Mo_relax_202 (kk := ?_)
                  refine gx_topi _ (nI_add _ _) ?_
                  refine gx_istore C _ dd_Mo_relax_203 (kk := ?_)
                  rcases hvf : v1 ((i * 9 + j) * 16 + x.1 / 1024) with _ | d
                  · refine gx_lload C 3 dd_Mo_relax_205 (kk := ?_)
                    refine gx_ldc2 C dd_Mo_relax_207 kc_Mo_129 (kk := ?_)
                    refine gx_lcmp C dd_Mo_relax_210 (kk := ?_)
                    refine gx_if_ge C 262 dd_Mo_relax_211 (fun h211 => ?_) (fun h211 => absurd (by decide) h211)
                    refine gx_iinc C 4 (nI (j + 1)) _ dd_Mo_relax_262 (nI_1 _) (kk := ?_)
                    refine gx_goto C 37 dd_Mo_relax_265 (kk := ?_)
                    refine gx_loc [0, 5, 6, 7, 8, 9] ?_
                    have hxf : we_xf A0 B0 i j x = some (((i * 9 + j) * 16 + x.1 / 1024), ((i * 9 + j) * 16 + x.1 % 16), x.2) := by
                      unfold we_xf
                      rw [pd, rd]
                    have hrx : ls_rx v1 (((i * 9 + j) * 16 + x.1 / 1024), ((i * 9 + j) * 16 + x.1 % 16), x.2) = v1 := ls_rx_n (by show ¬ ls_lt (ls_ad (v1 ((i * 9 + j) * 16 + x.1 / 1024)) x.2) _ = true; rw [hvf]; simp [ls_ad, ls_lt])
                    exact ihj (j + 1) c v1 L1 (by omega) (by rw [wJ_y hxf, ls_rd_s, ← hv1]; exact hrx.symm) hmt (sp_b_mono hB1 (by omega)) hc01 hc0 hLk
                  · have hdb := hB1 _ _ hvf
                    refine gx_lload C 3 dd_Mo_relax_205 (kk := ?_)
                    refine gx_ldc2 C dd_Mo_relax_207 kc_Mo_129 (kk := ?_)
                    refine gx_lcmp C dd_Mo_relax_210 (kk := ?_)
                    refine gx_if_ge C 262 dd_Mo_relax_211 (fun h211 => absurd (lc_ge.mp h211) (mf_fl (by omega))) (fun h211 => ?_)
                    refine gx_iload C 2 dd_Mo_relax_214 (kk := ?_)
                    refine gx_if_eq C 262 dd_Mo_relax_216 (fun h216 => absurd h216 (by decide)) (fun h216 => ?_)
                    refine gx_iload C 1 dd_Mo_relax_219 (kk := ?_)
                    refine gx_if_eq C 262 dd_Mo_relax_221 (fun h221 => absurd h221 (by decide)) (fun h221 => ?_)
                    refine gx_lload C 3 dd_Mo_relax_224 (kk := ?_)
                    refine gx_topl (lN d) rfl ?_
                    refine gx_aload_n C 8 dd_Mo_relax_226 (kk := ?_)
                    refine mo_get C fd_Mo_38 dd_Mo_relax_227 (kk := ?_)
                    refine gx_iload_n C 6 dd_Mo_relax_230 (kk := ?_)
                    refine mo_l53 C dd_Mo_relax_231 (by omega) (kk := ?_)
                    refine gx_topl _ hxa.2.2.2.2 ?_
                    refine gx_ladd C dd_Mo_relax_232 (kk := ?_)
                    refine gx_topl _ (lN_add _ _) ?_
                    have ht0 := hmt (x.1 % 16) i j (by omega) (by omega) (by omega)
                    · refine gx_aload_n C 8 dd_Mo_relax_233 (kk := ?_)
                      refine mo_get C fd_Mo_60 dd_Mo_relax_234 (kk := ?_)
                      refine gx_iload C 0 dd_Mo_relax_237 (kk := ?_)
                      refine mo_l60 C dd_Mo_relax_239 (by omega) (kk := ?_)
                      refine gx_topl _ ht0 ?_
                      refine gx_lcmp C dd_Mo_relax_240 (kk := ?_)
                      refine gx_if_ge C 262 dd_Mo_relax_241 (fun h241 => ?_) (fun h241 => ?_)
                      · refine gx_iinc C 4 (nI (j + 1)) _ dd_Mo_relax_262 (nI_1 _) (kk := ?_)
                        refine gx_goto C 37 dd_Mo_relax_265 (kk := ?_)
                        refine gx_loc [0, 5, 6, 7, 8, 9] ?_
                        have hxf : we_xf A0 B0 i j x = some (((i * 9 + j) * 16 + x.1 / 1024), ((i * 9 + j) * 16 + x.1 % 16), x.2) := by
                          unfold we_xf
                          rw [pd, rd]
                        rw [lc_ge, ← Int64.not_lt, show lN (d + x.2) = mf (some (d + x.2)) from rfl, mf_lt (fun y hy => by cases hy; omega) (fun y hy => by have := hB1 _ _ hy; omega)] at h241
                        have hrx : ls_rx v1 (((i * 9 + j) * 16 + x.1 / 1024), ((i * 9 + j) * 16 + x.1 % 16), x.2) = v1 := ls_rx_n (by show ¬ ls_lt (ls_ad (v1 ((i * 9 + j) * 16 + x.1 / 1024)) x.2) (v1 ((i * 9 + j) * 16 + x.1 % 16)) = true; rw [hvf]; exact h241)
                        exact ihj (j + 1) c v1 L1 (by omega) (by rw [wJ_y hxf, ls_rd_s, ← hv1]; exact hrx.symm) hmt (sp_b_mono hB1 (by omega)) hc01 hc0 hLk
                      · refine gx_aload_n C 8 dd_Mo_relax_244 (kk := ?_)
                        refine mo_get C fd_Mo_60 dd_Mo_relax_245 (kk := ?_)
                        refine gx_iload C 0 dd_Mo_relax_248 (kk := ?_)
                        refine gx_lload C 3 dd_Mo_relax_250 (kk := ?_)
                        refine gx_topl (lN d) rfl ?_
                        refine gx_aload_n C 8 dd_Mo_relax_252 (kk := ?_)
                        refine mo_get C fd_Mo_38 dd_Mo_relax_253 (kk := ?_)
                        refine gx_iload_n C 6 dd_Mo_relax_256 (kk := ?_)
                        refine mo_l53 C dd_Mo_relax_257 (by omega) (kk := ?_)
                        refine gx_topl _ hxa.2.2.2.2 ?_
                        refine gx_ladd C dd_Mo_relax_258 (kk := ?_)
                        refine gx_topl _ (lN_add _ _) ?_
                        refine mo_s60 C dd_Mo_relax_259 (by omega) (kk := fun L259 hL259 => ?_)
                        refine gx_iconst (v := nI 1) C dd_Mo_relax_260 (kk := ?_)
                        refine gx_istore_n C _ dd_Mo_relax_261 (kk := ?_)
                        refine gx_iinc C 5 (nI (j + 1)) _ dd_Mo_relax_262 (nI_1 _) (kk := ?_)
                        refine gx_goto C 37 dd_Mo_relax_265 (kk := ?_)
                        refine gx_loc [0, 6, 7, 1, 8, 9] ?_
                        have hxf : we_xf A0 B0 i j x = some (((i * 9 + j) * 16 + x.1 / 1024), ((i * 9 + j) * 16 + x.1 % 16), x.2) := by
                          unfold we_xf
                          rw [pd, rd]
                        rw [lc_ge, ← Int64.not_lt, Classical.not_not, show lN (d + x.2) = mf (some (d + x.2)) from rfl, mf_lt (fun y hy => by cases hy; omega) (fun y hy => by have := hB1 _ _ hy; omega)] at h241
                        have hrx : ls_rx v1 (((i * 9 + j) * 16 + x.1 / 1024), ((i * 9 + j) * 16 + x.1 % 16), x.2) = va_up v1 ((i * 9 + j) * 16 + x.1 % 16) (some (d + x.2)) := (ls_rx_y (by show ls_lt (ls_ad (v1 ((i * 9 + j) * 16 + x.1 / 1024)) x.2) (v1 ((i * 9 + j) * 16 + x.1 % 16)) = true; rw [hvf]; exact h241)).trans (by show va_up v1 ((i * 9 + j) * 16 + x.1 % 16) (ls_ad (v1 ((i * 9 + j) * 16 + x.1 / 1024)) x.2) = _; rw [hvf]; rfl)
                        exact ihj (j + 1) 1 _ L259 (by omega) (by rw [wJ_y hxf, ls_rd_s, ← hv1]; exact hrx.symm) (mtb_up (by omega) (by omega) (by omega) hL259 rfl hmt) (by rw [← hrx]; exact sp_b_mono (sp_b_rx (w := 1000000001) hB1 (by show x.2 ≤ _; omega)) (by omega)) (Or.inr rfl) (fun e => absurd e (by decide)) (fun k hk => by rw [hL259, gm_un hk]; exact hLk k hk)
                · obtain ⟨rl, rg⟩ : ∃ d, B0[j]? = some d := ⟨_, List.getElem?_eq_getElem r2⟩
                  have rb := hr62.2.2 rl (List.mem_of_getElem? rg)
                  refine gx_aload_n C 6 dd_Mo_relax_112 (kk := ?_)
                  refine mo_get C fd_Mo_35 dd_Mo_relax_113 (kk := ?_)
                  refine gx_iload_n C 4 dd_Mo_relax_116 (kk := ?_)
                  refine mo_l52 C dd_Mo_relax_117 (by omega) (kk := ?_)
                  refine gx_topi _ hxa.2.2.2.1 ?_
                  refine gx_if_eq C 146 dd_Mo_relax_118 (fun h118 => absurd h118 (nI_ne0 (by omega) (by omega))) (fun h118 => ?_)
                  refine gx_iload C 2 dd_Mo_relax_121 (kk := ?_)
                  refine gx_aload_n C 6 dd_Mo_relax_123 (kk := ?_)
                  refine mo_get C fd_Mo_165 dd_Mo_relax_124 (kk := ?_)
                  refine gx_topi _ hS24 ?_
                  refine gx_icmp_ge C 150 dd_Mo_relax_127 (fun h127 => absurd h127 (nI_ge (by omega) (by omega))) (fun h127 => ?_)
                  by_cases re : rl = x.1 / 16 % 8
                  · have rd : ro_dn B0 j (x.1 / 16 % 8) = some (j + 1) := ro_dn_y r1 (by rw [rg, re])
                    refine gx_aload_n C 6 dd_Mo_relax_130 (kk := ?_)
                    refine mo_get C fd_Mo_66 dd_Mo_relax_131 (kk := ?_)
                    refine gx_iload C 2 dd_Mo_relax_134 (kk := ?_)
                    refine mo_l62 C dd_Mo_relax_136 (by omega) (kk := ?_)
                    refine gx_topi _ (hr62.1 j rl rg) ?_
                    refine gx_aload_n C 6 dd_Mo_relax_137 (kk := ?_)
                    refine mo_get C fd_Mo_35 dd_Mo_relax_138 (kk := ?_)
                    refine gx_iload_n C 4 dd_Mo_relax_141 (kk := ?_)
                    refine mo_l52 C dd_Mo_relax_142 (by omega) (kk := ?_)
                    refine gx_topi _ hxa.2.2.2.1 ?_
                    refine gx_icmp_ne C 150 dd_Mo_relax_143 (fun h143 => absurd (congrArg nI re) h143) (fun h143 => ?_)
                    refine gx_iconst (v := nI 1) C dd_Mo_relax_146 (kk := ?_)
                    refine gx_goto C 151 dd_Mo_relax_147 (kk := ?_)
                    refine gx_istore C _ dd_Mo_relax_151 (kk := ?_)
                    refine gx_bipush (v := nI 81) C dd_Mo_relax_153 (kk := ?_)
                    refine gx_aload_n C 7 dd_Mo_relax_155 (kk := ?_)
                    refine mo_get C fd_Mo_29 dd_Mo_relax_156 (kk := ?_)
                    refine gx_iload_n C 5 dd_Mo_relax_159 (kk := ?_)
                    refine mo_l50 C dd_Mo_relax_160 (by omega) (kk := ?_)
                    refine gx_topi _ hxa.2.1 ?_
                    refine gx_imul C dd_Mo_relax_161 (kk := ?_)
                    refine gx_topi _ (pk_mul _ _) ?_
                    refine gx_bipush (v := nI 9) C dd_Mo_relax_162 (kk := ?_)
                    refine gx_aload_n C 7 dd_Mo_relax_164 (kk := ?_)
                    refine mo_get C fd_Mo_32 dd_Mo_relax_165 (kk := ?_)
                    refine gx_iload_n C 5 dd_Mo_relax_168 (kk := ?_)
                    refine mo_l51 C dd_Mo_relax_169 (by omega) (kk := ?_)
                    refine gx_topi _ hxa.2.2.1 ?_
                    refine gx_if_ne C 178 dd_Mo_relax_170 (fun h170 => absurd (show nI (x.1 / 128 % 8) = 0 by rw [p1]; rfl) h170) (fun h170 => ?_)
                    refine gx_iload C 4 dd_Mo_relax_173 (kk := ?_)
                    refine gx_goto C 182 dd_Mo_relax_175 (kk := ?_)
                    refine gx_imul C dd_Mo_relax_182 (kk := ?_)
                    refine gx_topi _ (pk_mul _ _) ?_
                    refine gx_iadd C dd_Mo_relax_183 (kk := ?_)
                    refine gx_topi _ (nI_add _ _) ?_
                    refine gx_aload_n C 7 dd_Mo_relax_184 (kk := ?_)
                    refine mo_get C fd_Mo_35 dd_Mo_relax_185 (kk := ?_)
                    refine gx_iload_n C 5 dd_Mo_relax_188 (kk := ?_)
                    refine mo_l52 C dd_Mo_relax_189 (by omega) (kk := ?_)
                    refine gx_topi _ hxa.2.2.2.1 ?_
                    refine gx_if_ne C 198 dd_Mo_relax_190 (fun h190 => ?_) (fun h190 => absurd h190 (nI_ne0 (by omega) (by omega)))
                    refine gx_iload C 3 dd_Mo_relax_198 (kk := ?_)
                    refine gx_iconst (v := nI 1) C dd_Mo_relax_200 (kk := ?_)
                    refine gx_iadd C dd_Mo_relax_201 (kk := ?_)
                    refine gx_topi _ (nI_add _ _) ?_
                    refine gx_iadd C dd_Mo_relax_202 (kk := ?_)
                    refine gx_topi _ (nI_add _ _) ?_
                    refine gx_istore C _ dd_Mo_relax_203 (kk := ?_)
                    rcases hvf : v1 ((i * 9 + j) * 16 + x.1 / 1024) with _ | d
                    · refine gx_lload C 3 dd_Mo_relax_205 (kk := ?_)
                      refine gx_ldc2 C dd_Mo_relax_207 kc_Mo_129 (kk := ?_)
                      refine gx_lcmp C dd_Mo_relax_210 (kk := ?_)
                      refine gx_if_ge C 262 dd_Mo_relax_211 (fun h211 => ?_) (fun h211 => absurd (by decide) h211)
                      refine gx_iinc C 4 (nI (j + 1)) _ dd_Mo_relax_262 (nI_1 _) (kk := ?_)
                      refine gx_goto C 37 dd_Mo_relax_265 (kk := ?_)
                      refine gx_loc [0, 5, 6, 7, 8, 9] ?_
                      have hxf : we_xf A0 B0 i j x = some (((i * 9 + j) * 16 + x.1 / 1024), ((i * 9 + (j + 1)) * 16 + x.1 % 16), x.2) := by
                        unfold we_xf
                        rw [pd, rd]
                      have hrx : ls_rx v1 (((i * 9 + j) * 16 + x.1 / 1024), ((i * 9 + (j + 1)) * 16 + x.1 % 16), x.2) = v1 := ls_rx_n (by show ¬ ls_lt (ls_ad (v1 ((i * 9 + j) * 16 + x.1 / 1024)) x.2) _ = true; rw [hvf]; simp [ls_ad, ls_lt])
                      exact ihj (j + 1) c v1 L1 (by omega) (by rw [wJ_y hxf, ls_rd_s, ← hv1]; exact hrx.symm) hmt (sp_b_mono hB1 (by omega)) hc01 hc0 hLk
                    · have hdb := hB1 _ _ hvf
                      refine gx_lload C 3 dd_Mo_relax_205 (kk := ?_)
                      refine gx_ldc2 C dd_Mo_relax_207 kc_Mo_129 (kk := ?_)
                      refine gx_lcmp C dd_Mo_relax_210 (kk := ?_)
                      refine gx_if_ge C 262 dd_Mo_relax_211 (fun h211 => absurd (lc_ge.mp h211) (mf_fl (by omega))) (fun h211 => ?_)
                      refine gx_iload C 2 dd_Mo_relax_214 (kk := ?_)
                      refine gx_if_eq C 262 dd_Mo_relax_216 (fun h216 => absurd h216 (by decide)) (fun h216 => ?_)
                      refine gx_iload C 1 dd_Mo_relax_219 (kk := ?_)
                      refine gx_if_eq C 262 dd_Mo_relax_221 (fun h221 => absurd h221 (by decide)) (fun h221 => ?_)
                      refine gx_lload C 3 dd_Mo_relax_224 (kk := ?_)
                      refine gx_topl (lN d) rfl ?_
                      refine gx_aload_n C 8 dd_Mo_relax_226 (kk := ?_)
                      refine mo_get C fd_Mo_38 dd_Mo_relax_227 (kk := ?_)
                      refine gx_iload_n C 6 dd_Mo_relax_230 (kk := ?_)
                      refine mo_l53 C dd_Mo_relax_231 (by omega) (kk := ?_)
                      refine gx_topl _ hxa.2.2.2.2 ?_
                      refine gx_ladd C dd_Mo_relax_232 (kk := ?_)
                      refine gx_topl _ (lN_add _ _) ?_
                      have ht0 := hmt (x.1 % 16) i (j + 1) (by omega) (by omega) (by omega)
                      · refine gx_aload_n C 8 dd_Mo_relax_233 (kk := ?_)
                        refine mo_get C fd_Mo_60 dd_Mo_relax_234 (kk := ?_)
                        refine gx_iload C 0 dd_Mo_relax_237 (kk := ?_)
                        refine mo_l60 C dd_Mo_relax_239 (by omega) (kk := ?_)
                        refine gx_topl _ ht0 ?_
                        refine gx_lcmp C dd_Mo_relax_240 (kk := ?_)
                        refine gx_if_ge C 262 dd_Mo_relax_241 (fun h241 => ?_) (fun h241 => ?_)
                        · refine gx_iinc C 4 (nI (j + 1)) _ dd_Mo_relax_262 (nI_1 _) (kk := ?_)
                          refine gx_goto C 37 dd_Mo_relax_265 (kk := ?_)
                          refine gx_loc [0, 5, 6, 7, 8, 9] ?_
                          have hxf : we_xf A0 B0 i j x = some (((i * 9 + j) * 16 + x.1 / 1024), ((i * 9 + (j + 1)) * 16 + x.1 % 16), x.2) := by
                            unfold we_xf
                            rw [pd, rd]
                          rw [lc_ge, ← Int64.not_lt, show lN (d + x.2) = mf (some (d + x.2)) from rfl, mf_lt (fun y hy => by cases hy; omega) (fun y hy => by have := hB1 _ _ hy; omega)] at h241
                          have hrx : ls_rx v1 (((i * 9 + j) * 16 + x.1 / 1024), ((i * 9 + (j + 1)) * 16 + x.1 % 16), x.2) = v1 := ls_rx_n (by show ¬ ls_lt (ls_ad (v1 ((i * 9 + j) * 16 + x.1 / 1024)) x.2) (v1 ((i * 9 + (j + 1)) * 16 + x.1 % 16)) = true; rw [hvf]; exact h241)
                          exact ihj (j + 1) c v1 L1 (by omega) (by rw [wJ_y hxf, ls_rd_s, ← hv1]; exact hrx.symm) hmt (sp_b_mono hB1 (by omega)) hc01 hc0 hLk
                        · refine gx_aload_n C 8 dd_Mo_relax_244 (kk := ?_)
                          refine mo_get C fd_Mo_60 dd_Mo_relax_245 (kk := ?_)
                          refine gx_iload C 0 dd_Mo_relax_248 (kk := ?_)
                          refine gx_lload C 3 dd_Mo_relax_250 (kk := ?_)
                          refine gx_topl (lN d) rfl ?_
                          refine gx_aload_n C 8 dd_Mo_relax_252 (kk := ?_)
                          refine mo_get C fd_Mo_38 dd_Mo_relax_253 (kk := ?_)
                          refine gx_iload_n C 6 dd_Mo_relax_256 (kk := ?_)
                          refine mo_l53 C dd_Mo_relax_257 (by omega) (kk := ?_)
                          refine gx_topl _ hxa.2.2.2.2 ?_
                          refine gx_ladd C dd_Mo_relax_258 (kk := ?_)
                          refine gx_topl _ (lN_add _ _) ?_
                          refine mo_s60 C dd_Mo_relax_259 (by omega) (kk := fun L259 hL259 => ?_)
                          refine gx_iconst (v := nI 1) C dd_Mo_relax_260 (kk := ?_)
                          refine gx_istore_n C _ dd_Mo_relax_261 (kk := ?_)
                          refine gx_iinc C 5 (nI (j + 1)) _ dd_Mo_relax_262 (nI_1 _) (kk := ?_)
                          refine gx_goto C 37 dd_Mo_relax_265 (kk := ?_)
                          refine gx_loc [0, 6, 7, 1, 8, 9] ?_
                          have hxf : we_xf A0 B0 i j x = some (((i * 9 + j) * 16 + x.1 / 1024), ((i * 9 + (j + 1)) * 16 + x.1 % 16), x.2) := by
                            unfold we_xf
                            rw [pd, rd]
                          rw [lc_ge, ← Int64.not_lt, Classical.not_not, show lN (d + x.2) = mf (some (d + x.2)) from rfl, mf_lt (fun y hy => by cases hy; omega) (fun y hy => by have := hB1 _ _ hy; omega)] at h241
                          have hrx : ls_rx v1 (((i * 9 + j) * 16 + x.1 / 1024), ((i * 9 + (j + 1)) * 16 + x.1 % 16), x.2) = va_up v1 ((i * 9 + (j + 1)) * 16 + x.1 % 16) (some (d + x.2)) := (ls_rx_y (by show ls_lt (ls_ad (v1 ((i * 9 + j) * 16 + x.1 / 1024)) x.2) (v1 ((i * 9 + (j + 1)) * 16 + x.1 % 16)) = true; rw [hvf]; exact h241)).trans (by show va_up v1 ((i * 9 + (j + 1)) * 16 + x.1 % 16) (ls_ad (v1 ((i * 9 + j) * 16 + x.1 / 1024)) x.2) = _; rw [hvf]; rfl)
                          exact ihj (j + 1) 1 _ L259 (by omega) (by rw [wJ_y hxf, ls_rd_s, ← hv1]; exact hrx.symm) (mtb_up (by omega) (by omega) (by omega) hL259 rfl hmt) (by rw [← hrx]; exact sp_b_mono (sp_b_rx (w := 1000000001) hB1 (by show x.2 ≤ _; omega)) (by omega)) (Or.inr rfl) (fun e => absurd e (by decide)) (fun k hk => by rw [hL259, gm_un hk]; exact hLk k hk)
                  · have rd : ro_dn B0 j (x.1 / 16 % 8) = none := ro_dn_n r1 (fun cc => re (Option.some.inj (rg.symm.trans cc)))
                    refine gx_aload_n C 6 dd_Mo_relax_130 (kk := ?_)
                    refine mo_get C fd_Mo_66 dd_Mo_relax_131 (kk := ?_)
                    refine gx_iload C 2 dd_Mo_relax_134 (kk := ?_)
                    refine mo_l62 C dd_Mo_relax_136 (by omega) (kk := ?_)
                    refine gx_topi _ (hr62.1 j rl rg) ?_
                    refine gx_aload_n C 6 dd_Mo_relax_137 (kk := ?_)
                    refine mo_get C fd_Mo_35 dd_Mo_relax_138 (kk := ?_)
                    refine gx_iload_n C 4 dd_Mo_relax_141 (kk := ?_)
                    refine mo_l52 C dd_Mo_relax_142 (by omega) (kk := ?_)
                    refine gx_topi _ hxa.2.2.2.1 ?_
                    refine gx_icmp_ne C 150 dd_Mo_relax_143 (fun h143 => ?_) (fun h143 => absurd ((nI_eq (by omega) (by omega)).mp h143) re)
                    refine gx_iconst (v := nI 0) C dd_Mo_relax_150 (kk := ?_)
                    refine gx_istore C _ dd_Mo_relax_151 (kk := ?_)
                    refine gx_bipush (v := nI 81) C dd_Mo_relax_153 (kk := ?_)
                    refine gx_aload_n C 7 dd_Mo_relax_155 (kk := ?_)
                    refine mo_get C fd_Mo_29 dd_Mo_relax_156 (kk := ?_)
                    refine gx_iload_n C 5 dd_Mo_relax_159 (kk := ?_)
                    refine mo_l50 C dd_Mo_relax_160 (by omega) (kk := ?_)
                    refine gx_topi _ hxa.2.1 ?_
                    refine gx_imul C dd_Mo_relax_161 (kk := ?_)
                    refine gx_topi _ (pk_mul _ _) ?_
                    refine gx_bipush (v := nI 9) C dd_Mo_relax_162 (kk := ?_)
                    refine gx_aload_n C 7 dd_Mo_relax_164 (kk := ?_)
                    refine mo_get C fd_Mo_32 dd_Mo_relax_165 (kk := ?_)
                    refine gx_iload_n C 5 dd_Mo_relax_168 (kk := ?_)
                    refine mo_l51 C dd_Mo_relax_169 (by omega) (kk := ?_)
                    refine gx_topi _ hxa.2.2.1 ?_
                    refine gx_if_ne C 178 dd_Mo_relax_170 (fun h170 => absurd (show nI (x.1 / 128 % 8) = 0 by rw [p1]; rfl) h170) (fun h170 => ?_)
                    refine gx_iload C 4 dd_Mo_relax_173 (kk := ?_)
                    refine gx_goto C 182 dd_Mo_relax_175 (kk := ?_)
                    refine gx_imul C dd_Mo_relax_182 (kk := ?_)
                    refine gx_topi _ (pk_mul _ _) ?_
                    refine gx_iadd C dd_Mo_relax_183 (kk := ?_)
                    refine gx_topi _ (nI_add _ _) ?_
                    refine gx_aload_n C 7 dd_Mo_relax_184 (kk := ?_)
                    refine mo_get C fd_Mo_35 dd_Mo_relax_185 (kk := ?_)
                    refine gx_iload_n C 5 dd_Mo_relax_188 (kk := ?_)
                    refine mo_l52 C dd_Mo_relax_189 (by omega) (kk := ?_)
                    refine gx_topi _ hxa.2.2.2.1 ?_
                    refine gx_if_ne C 198 dd_Mo_relax_190 (fun h190 => ?_) (fun h190 => absurd h190 (nI_ne0 (by omega) (by omega)))
                    refine gx_iload C 3 dd_Mo_relax_198 (kk := ?_)
                    refine gx_iconst (v := nI 1) C dd_Mo_relax_200 (kk := ?_)
                    refine gx_iadd C dd_Mo_relax_201 (kk := ?_)
                    refine gx_topi _ (nI_add _ _) ?_
                    refine gx_iadd C dd_Mo_relax_202 (kk := ?_)
                    refine gx_topi _ (nI_add _ _) ?_
                    refine gx_istore C _ dd_Mo_relax_203 (kk := ?_)
                    rcases hvf : v1 ((i * 9 + j) * 16 + x.1 / 1024) with _ | d
                    · refine gx_lload C 3 dd_Mo_relax_205 (kk := ?_)
                      refine gx_ldc2 C dd_Mo_relax_207 kc_Mo_129 (kk := ?_)
                      refine gx_lcmp C dd_Mo_relax_210 (kk := ?_)
                      refine gx_if_ge C 262 dd_Mo_relax_211 (fun h211 => ?_) (fun h211 => absurd (by decide) h211)
                      refine gx_iinc C 4 (nI (j + 1)) _ dd_Mo_relax_262 (nI_1 _) (kk := ?_)
                      refine gx_goto C 37 dd_Mo_relax_265 (kk := ?_)
                      refine gx_loc [0, 5, 6, 7, 8, 9] ?_
                      have hxf : we_xf A0 B0 i j x = none := by
                        unfold we_xf
                        rw [pd, rd]
                      exact ihj (j + 1) c v1 L1 (by omega) (by rw [wJ_n hxf]; exact hv1) hmt (sp_b_mono hB1 (by omega)) hc01 hc0 hLk
                    · have hdb := hB1 _ _ hvf
                      refine gx_lload C 3 dd_Mo_relax_205 (kk := ?_)
                      refine gx_ldc2 C dd_Mo_relax_207 kc_Mo_129 (kk := ?_)
                      refine gx_lcmp C dd_Mo_relax_210 (kk := ?_)
                      refine gx_if_ge C 262 dd_Mo_relax_211 (fun h211 => absurd (lc_ge.mp h211) (mf_fl (by omega))) (fun h211 => ?_)
                      refine gx_iload C 2 dd_Mo_relax_214 (kk := ?_)
                      refine gx_if_eq C 262 dd_Mo_relax_216 (fun h216 => absurd h216 (by decide)) (fun h216 => ?_)
                      refine gx_iload C 1 dd_Mo_relax_219 (kk := ?_)
                      refine gx_if_eq C 262 dd_Mo_relax_221 (fun h221 => ?_) (fun h221 => absurd rfl h221)
                      refine gx_iinc C 4 (nI (j + 1)) _ dd_Mo_relax_262 (nI_1 _) (kk := ?_)
                      refine gx_goto C 37 dd_Mo_relax_265 (kk := ?_)
                      refine gx_loc [0, 5, 6, 7, 8, 9] ?_
                      have hxf : we_xf A0 B0 i j x = none := by
                        unfold we_xf
                        rw [pd, rd]
                      exact ihj (j + 1) c v1 L1 (by omega) (by rw [wJ_n hxf]; exact hv1) hmt (sp_b_mono hB1 (by omega)) hc01 hc0 hLk
                · have rd : ro_dn B0 j (x.1 / 16 % 8) = none := ro_dn_n r1 (by rw [List.getElem?_eq_none r2]; simp)
                  refine gx_aload_n C 6 dd_Mo_relax_112 (kk := ?_)
                  refine mo_get C fd_Mo_35 dd_Mo_relax_113 (kk := ?_)
                  refine gx_iload_n C 4 dd_Mo_relax_116 (kk := ?_)
                  refine mo_l52 C dd_Mo_relax_117 (by omega) (kk := ?_)
                  refine gx_topi _ hxa.2.2.2.1 ?_
                  refine gx_if_eq C 146 dd_Mo_relax_118 (fun h118 => absurd h118 (nI_ne0 (by omega) (by omega))) (fun h118 => ?_)
                  refine gx_iload C 2 dd_Mo_relax_121 (kk := ?_)
                  refine gx_aload_n C 6 dd_Mo_relax_123 (kk := ?_)
                  refine mo_get C fd_Mo_165 dd_Mo_relax_124 (kk := ?_)
                  refine gx_topi _ hS24 ?_
                  refine gx_icmp_ge C 150 dd_Mo_relax_127 (fun h127 => ?_) (fun h127 => absurd (nI_le (by omega) (by omega)) h127)
                  refine gx_iconst (v := nI 0) C dd_Mo_relax_150 (kk := ?_)
                  refine gx_istore C _ dd_Mo_relax_151 (kk := ?_)
                  refine gx_bipush (v := nI 81) C dd_Mo_relax_153 (kk := ?_)
                  refine gx_aload_n C 7 dd_Mo_relax_155 (kk := ?_)
                  refine mo_get C fd_Mo_29 dd_Mo_relax_156 (kk := ?_)
                  refine gx_iload_n C 5 dd_Mo_relax_159 (kk := ?_)
                  refine mo_l50 C dd_Mo_relax_160 (by omega) (kk := ?_)
                  refine gx_topi _ hxa.2.1 ?_
                  refine gx_imul C dd_Mo_relax_161 (kk := ?_)
                  refine gx_topi _ (pk_mul _ _) ?_
                  refine gx_bipush (v := nI 9) C dd_Mo_relax_162 (kk := ?_)
                  refine gx_aload_n C 7 dd_Mo_relax_164 (kk := ?_)
                  refine mo_get C fd_Mo_32 dd_Mo_relax_165 (kk := ?_)
                  refine gx_iload_n C 5 dd_Mo_relax_168 (kk := ?_)
                  refine mo_l51 C dd_Mo_relax_169 (by omega) (kk := ?_)
                  refine gx_topi _ hxa.2.2.1 ?_
                  refine gx_if_ne C 178 dd_Mo_relax_170 (fun h170 => absurd (show nI (x.1 / 128 % 8) = 0 by rw [p1]; rfl) h170) (fun h170 => ?_)
                  refine gx_iload C 4 dd_Mo_relax_173 (kk := ?_)
                  refine gx_goto C 182 dd_Mo_relax_175 (kk := ?_)
                  refine gx_imul C dd_Mo_relax_182 (kk := ?_)
                  refine gx_topi _ (pk_mul _ _) ?_
                  refine gx_iadd C dd_Mo_relax_183 (kk := ?_)
                  refine gx_topi _ (nI_add _ _) ?_
                  refine gx_aload_n C 7 dd_Mo_relax_184 (kk := ?_)
                  refine mo_get C fd_Mo_35 dd_Mo_relax_185 (kk := ?_)
                  refine gx_iload_n C 5 dd_Mo_relax_188 (kk := ?_)
                  refine mo_l52 C dd_Mo_relax_189 (by omega) (kk := ?_)
                  refine gx_topi _ hxa.2.2.2.1 ?_
                  refine gx_if_ne C 198 dd_Mo_relax_190 (fun h190 => ?_) (fun h190 => absurd h190 (nI_ne0 (by omega) (by omega)))
                  refine gx_iload C 3 dd_Mo_relax_198 (kk := ?_)
                  refine gx_iconst (v := nI 1) C dd_Mo_relax_200 (kk := ?_)
                  refine gx_iadd C dd_Mo_relax_201 (kk := ?_)
                  refine gx_topi _ (nI_add _ _) ?_
                  refine gx_iadd C dd_Mo_relax_202 (kk := ?_)
                  refine gx_topi _ (nI_add _ _) ?_
                  refine gx_istore C _ dd_Mo_relax_203 (kk := ?_)
                  rcases hvf : v1 ((i * 9 + j) * 16 + x.1 / 1024) with _ | d
                  · refine gx_lload C 3 dd_Mo_relax_205 (kk := ?_)
                    refine gx_ldc2 C dd_Mo_relax_207 kc_Mo_129 (kk := ?_)
                    refine gx_lcmp C dd_Mo_relax_210 (kk := ?_)
                    refine gx_if_ge C 262 dd_Mo_relax_211 (fun h211 => ?_) (fun h211 => absurd (by decide) h211)
                    refine gx_iinc C 4 (nI (j + 1)) _ dd_Mo_relax_262 (nI_1 _) (kk := ?_)
                    refine gx_goto C 37 dd_Mo_relax_265 (kk := ?_)
                    refine gx_loc [0, 5, 6, 7, 8, 9] ?_
                    have hxf : we_xf A0 B0 i j x = none := by
                      unfold we_xf
                      rw [pd, rd]
                    exact ihj (j + 1) c v1 L1 (by omega) (by rw [wJ_n hxf]; exact hv1) hmt (sp_b_mono hB1 (by omega)) hc01 hc0 hLk
                  · have hdb := hB1 _ _ hvf
                    refine gx_lload C 3 dd_Mo_relax_205 (kk := ?_)
                    refine gx_ldc2 C dd_Mo_relax_207 kc_Mo_129 (kk := ?_)
                    refine gx_lcmp C dd_Mo_relax_210 (kk := ?_)
                    refine gx_if_ge C 262 dd_Mo_relax_211 (fun h211 => absurd (lc_ge.mp h211) (mf_fl (by omega))) (fun h211 => ?_)
                    refine gx_iload C 2 dd_Mo_relax_214 (kk := ?_)
                    refine gx_if_eq C 262 dd_Mo_relax_216 (fun h216 => absurd h216 (by decide)) (fun h216 => ?_)
                    refine gx_iload C 1 dd_Mo_relax_219 (kk := ?_)
                    refine gx_if_eq C 262 dd_Mo_relax_221 (fun h221 => ?_) (fun h221 => absurd rfl h221)
                    refine gx_iinc C 4 (nI (j + 1)) _ dd_Mo_relax_262 (nI_1 _) (kk := ?_)
                    refine gx_goto C 37 dd_Mo_relax_265 (kk := ?_)
                    refine gx_loc [0, 5, 6, 7, 8, 9] ?_
                    have hxf : we_xf A0 B0 i j x = none := by
                      unfold we_xf
                      rw [pd, rd]
                    exact ihj (j + 1) c v1 L1 (by omega) (by rw [wJ_n hxf]; exact hv1) hmt (sp_b_mono hB1 (by omega)) hc01 hc0 hLk
              · obtain ⟨pl, pg⟩ : ∃ d, A0[i]? = some d := ⟨_, List.getElem?_eq_getElem p2⟩
                have pb := hr61.2.2 pl (List.mem_of_getElem? pg)
                refine gx_aload_n C 5 dd_Mo_relax_71 (kk := ?_)
                refine mo_get C fd_Mo_32 dd_Mo_relax_72 (kk := ?_)
                refine gx_iload_n C 3 dd_Mo_relax_75 (kk := ?_)
                refine mo_l51 C dd_Mo_relax_76 (by omega) (kk := ?_)
                refine gx_topi _ hxa.2.2.1 ?_
                refine gx_if_eq C 105 dd_Mo_relax_77 (fun h77 => absurd h77 (nI_ne0 (by omega) (by omega))) (fun h77 => ?_)
                refine gx_iload C 2 dd_Mo_relax_80 (kk := ?_)
                refine gx_aload_n C 5 dd_Mo_relax_82 (kk := ?_)
                refine mo_get C fd_Mo_162 dd_Mo_relax_83 (kk := ?_)
                refine gx_topi _ hS23 ?_
                refine gx_icmp_ge C 109 dd_Mo_relax_86 (fun h86 => absurd h86 (nI_ge (by omega) (by omega))) (fun h86 => ?_)
                by_cases pe : pl = x.1 / 128 % 8
                · have pd : ro_dn A0 i (x.1 / 128 % 8) = some (i + 1) := ro_dn_y p1 (by rw [pg, pe])
                  refine gx_aload_n C 5 dd_Mo_relax_89 (kk := ?_)
                  refine mo_get C fd_Mo_63 dd_Mo_relax_90 (kk := ?_)
                  refine gx_iload C 2 dd_Mo_relax_93 (kk := ?_)
                  refine mo_l61 C dd_Mo_relax_95 (by omega) (kk := ?_)
                  refine gx_topi _ (hr61.1 i pl pg) ?_
                  refine gx_aload_n C 5 dd_Mo_relax_96 (kk := ?_)
                  refine mo_get C fd_Mo_32 dd_Mo_relax_97 (kk := ?_)
                  refine gx_iload_n C 3 dd_Mo_relax_100 (kk := ?_)
                  refine mo_l51 C dd_Mo_relax_101 (by omega) (kk := ?_)
                  refine gx_topi _ hxa.2.2.1 ?_
                  refine gx_icmp_ne C 109 dd_Mo_relax_102 (fun h102 => absurd (congrArg nI pe) h102) (fun h102 => ?_)
                  refine gx_iconst (v := nI 1) C dd_Mo_relax_105 (kk := ?_)
                  refine gx_goto C 110 dd_Mo_relax_106 (kk := ?_)
                  refine gx_istore C _ dd_Mo_relax_110 (kk := ?_)
                  rcases (show x.1 / 16 % 8 = 0 ∨ (¬ x.1 / 16 % 8 = 0 ∧ j < B0.length) ∨ (¬ x.1 / 16 % 8 = 0 ∧ B0.length ≤ j) by omega) with r1 | ⟨r1, r2⟩ | ⟨r1, r2⟩
                  · have rd : ro_dn B0 j (x.1 / 16 % 8) = some j := by
                      rw [r1]
                      exact ro_dn_0
                    refine gx_aload_n C 6 dd_Mo_relax_112 (kk := ?_)
                    refine mo_get C fd_Mo_35 dd_Mo_relax_113 (kk := ?_)
                    refine gx_iload_n C 4 dd_Mo_relax_116 (kk := ?_)
                    refine mo_l52 C dd_Mo_relax_117 (by omega) (kk := ?_)
                    refine gx_topi _ hxa.2.2.2.1 ?_
                    refine gx_if_eq C 146 dd_Mo_relax_118 (fun h118 => ?_) (fun h118 => absurd (show nI (x.1 / 16 % 8) = 0 by rw [r1]; rfl) h118)
                    refine gx_iconst (v := nI 1) C dd_Mo_relax_146 (kk := ?_)
                    refine gx_goto C 151 dd_Mo_relax_147 (kk := ?_)
                    refine gx_istore C _ dd_Mo_relax_151 (kk := ?_)
                    refine gx_bipush (v := nI 81) C dd_Mo_relax_153 (kk := ?_)
                    refine gx_aload_n C 7 dd_Mo_relax_155 (kk := ?_)
                    refine mo_get C fd_Mo_29 dd_Mo_relax_156 (kk := ?_)
                    refine gx_iload_n C 5 dd_Mo_relax_159 (kk := ?_)
                    refine mo_l50 C dd_Mo_relax_160 (by omega) (kk := ?_)
                    refine gx_topi _ hxa.2.1 ?_
                    refine gx_imul C dd_Mo_relax_161 (kk := ?_)
                    refine gx_topi _ (pk_mul _ _) ?_
                    refine gx_bipush (v := nI 9) C dd_Mo_relax_162 (kk := ?_)
                    refine gx_aload_n C 7 dd_Mo_relax_164 (kk := ?_)
                    refine mo_get C fd_Mo_32 dd_Mo_relax_165 (kk := ?_)
                    refine gx_iload_n C 5 dd_Mo_relax_168 (kk := ?_)
                    refine mo_l51 C dd_Mo_relax_169 (by omega) (kk := ?_)
                    refine gx_topi _ hxa.2.2.1 ?_
                    refine gx_if_ne C 178 dd_Mo_relax_170 (fun h170 => ?_) (fun h170 => absurd h170 (nI_ne0 (by omega) (by omega)))
                    refine gx_iload C 4 dd_Mo_relax_178 (kk := ?_)
                    refine gx_iconst (v := nI 1) C dd_Mo_relax_180 (kk := ?_)
                    refine gx_iadd C dd_Mo_relax_181 (kk := ?_)
                    refine gx_topi _ (nI_add _ _) ?_
                    refine gx_imul C dd_Mo_relax_182 (kk := ?_)
                    refine gx_topi _ (pk_mul _ _) ?_
                    refine gx_iadd C dd_Mo_relax_183 (kk := ?_)
                    refine gx_topi _ (nI_add _ _) ?_
                    refine gx_aload_n C 7 dd_Mo_relax_184 (kk := ?_)
                    refine mo_get C fd_Mo_35 dd_Mo_relax_185 (kk := ?_)
                    refine gx_iload_n C 5 dd_Mo_relax_188 (kk := ?_)
                    refine mo_l52 C dd_Mo_relax_189 (by omega) (kk := ?_)
                    refine gx_topi _ hxa.2.2.2.1 ?_
                    refine gx_if_ne C 198 dd_Mo_relax_190 (fun h190 => absurd (show nI (x.1 / 16 % 8) = 0 by rw [r1]; rfl) h190) (fun h190 => ?_)
                    refine gx_iload C 3 dd_Mo_relax_193 (kk := ?_)
                    refine gx_goto C 202 dd_Mo_relax_195 (kk := ?_)
                    refine gx_iadd C dd_Mo_relax_202 (kk := ?_)
                    refine gx_topi _ (nI_add _ _) ?_
                    refine gx_istore C _ dd_Mo_relax_203 (kk := ?_)
                    rcases hvf : v1 ((i * 9 + j) * 16 + x.1 / 1024) with _ | d
                    · refine gx_lload C 3 dd_Mo_relax_205 (kk := ?_)
                      refine gx_ldc2 C dd_Mo_relax_207 kc_Mo_129 (kk := ?_)
                      refine gx_lcmp C dd_Mo_relax_210 (kk := ?_)
                      refine gx_if_ge C 262 dd_Mo_relax_211 (fun h211 => ?_) (fun h211 => absurd (by decide) h211)
                      refine gx_iinc C 4 (nI (j + 1)) _ dd_Mo_relax_262 (nI_1 _) (kk := ?_)
                      refine gx_goto C 37 dd_Mo_relax_265 (kk := ?_)
                      refine gx_loc [0, 5, 6, 7, 8, 9] ?_
                      have hxf : we_xf A0 B0 i j x = some (((i * 9 + j) * 16 + x.1 / 1024), (((i + 1) * 9 + j) * 16 + x.1 % 16), x.2) := by
                        unfold we_xf
                        rw [pd, rd]
                      have hrx : ls_rx v1 (((i * 9 + j) * 16 + x.1 / 1024), (((i + 1) * 9 + j) * 16 + x.1 % 16), x.2) = v1 := ls_rx_n (by show ¬ ls_lt (ls_ad (v1 ((i * 9 + j) * 16 + x.1 / 1024)) x.2) _ = true; rw [hvf]; simp [ls_ad, ls_lt])
                      exact ihj (j + 1) c v1 L1 (by omega) (by rw [wJ_y hxf, ls_rd_s, ← hv1]; exact hrx.symm) hmt (sp_b_mono hB1 (by omega)) hc01 hc0 hLk
                    · have hdb := hB1 _ _ hvf
                      refine gx_lload C 3 dd_Mo_relax_205 (kk := ?_)
                      refine gx_ldc2 C dd_Mo_relax_207 kc_Mo_129 (kk := ?_)
                      refine gx_lcmp C dd_Mo_relax_210 (kk := ?_)
                      refine gx_if_ge C 262 dd_Mo_relax_211 (fun h211 => absurd (lc_ge.mp h211) (mf_fl (by omega))) (fun h211 => ?_)
                      refine gx_iload C 2 dd_Mo_relax_214 (kk := ?_)
                      refine gx_if_eq C 262 dd_Mo_relax_216 (fun h216 => absurd h216 (by decide)) (fun h216 => ?_)
                      refine gx_iload C 1 dd_Mo_relax_219 (kk := ?_)
                      refine gx_if_eq C 262 dd_Mo_relax_221 (fun h221 => absurd h221 (by decide)) (fun h221 => ?_)
                      refine gx_lload C 3 dd_Mo_relax_224 (kk := ?_)
                      refine gx_topl (lN d) rfl ?_
                      refine gx_aload_n C 8 dd_Mo_relax_226 (kk := ?_)
                      refine mo_get C fd_Mo_38 dd_Mo_relax_227 (kk := ?_)
                      refine gx_iload_n C 6 dd_Mo_relax_230 (kk := ?_)
                      refine mo_l53 C dd_Mo_relax_231 (by omega) (kk := ?_)
                      refine gx_topl _ hxa.2.2.2.2 ?_
                      refine gx_ladd C dd_Mo_relax_232 (kk := ?_)
                      refine gx_topl _ (lN_add _ _) ?_
                      have ht0 := hmt (x.1 % 16) (i + 1) j (by omega) (by omega) (by omega)
                      · refine gx_aload_n C 8 dd_Mo_relax_233 (kk := ?_)
                        refine mo_get C fd_Mo_60 dd_Mo_relax_234 (kk := ?_)
                        refine gx_iload C 0 dd_Mo_relax_237 (kk := ?_)
                        refine mo_l60 C dd_Mo_relax_239 (by omega) (kk := ?_)
                        refine gx_topl _ ht0 ?_
                        refine gx_lcmp C dd_Mo_relax_240 (kk := ?_)
                        refine gx_if_ge C 262 dd_Mo_relax_241 (fun h241 => ?_) (fun h241 => ?_)
                        · refine gx_iinc C 4 (nI (j + 1)) _ dd_Mo_relax_262 (nI_1 _) (kk := ?_)
                          refine gx_goto C 37 dd_Mo_relax_265 (kk := ?_)
                          refine gx_loc [0, 5, 6, 7, 8, 9] ?_
                          have hxf : we_xf A0 B0 i j x = some (((i * 9 + j) * 16 + x.1 / 1024), (((i + 1) * 9 + j) * 16 + x.1 % 16), x.2) := by
                            unfold we_xf
                            rw [pd, rd]
                          rw [lc_ge, ← Int64.not_lt, show lN (d + x.2) = mf (some (d + x.2)) from rfl, mf_lt (fun y hy => by cases hy; omega) (fun y hy => by have := hB1 _ _ hy; omega)] at h241
                          have hrx : ls_rx v1 (((i * 9 + j) * 16 + x.1 / 1024), (((i + 1) * 9 + j) * 16 + x.1 % 16), x.2) = v1 := ls_rx_n (by show ¬ ls_lt (ls_ad (v1 ((i * 9 + j) * 16 + x.1 / 1024)) x.2) (v1 (((i + 1) * 9 + j) * 16 + x.1 % 16)) = true; rw [hvf]; exact h241)
                          exact ihj (j + 1) c v1 L1 (by omega) (by rw [wJ_y hxf, ls_rd_s, ← hv1]; exact hrx.symm) hmt (sp_b_mono hB1 (by omega)) hc01 hc0 hLk
                        · refine gx_aload_n C 8 dd_Mo_relax_244 (kk := ?_)
                          refine mo_get C fd_Mo_60 dd_Mo_relax_245 (kk := ?_)
                          refine gx_iload C 0 dd_Mo_relax_248 (kk := ?_)
                          refine gx_lload C 3 dd_Mo_relax_250 (kk := ?_)
                          refine gx_topl (lN d) rfl ?_
                          refine gx_aload_n C 8 dd_Mo_relax_252 (kk := ?_)
                          refine mo_get C fd_Mo_38 dd_Mo_relax_253 (kk := ?_)
                          refine gx_iload_n C 6 dd_Mo_relax_256 (kk := ?_)
                          refine mo_l53 C dd_Mo_relax_257 (by omega) (kk := ?_)
                          refine gx_topl _ hxa.2.2.2.2 ?_
                          refine gx_ladd C dd_Mo_relax_258 (kk := ?_)
                          refine gx_topl _ (lN_add _ _) ?_
                          refine mo_s60 C dd_Mo_relax_259 (by omega) (kk := fun L259 hL259 => ?_)
                          refine gx_iconst (v := nI 1) C dd_Mo_relax_260 (kk := ?_)
                          refine gx_istore_n C _ dd_Mo_relax_261 (kk := ?_)
                          refine gx_iinc C 5 (nI (j + 1)) _ dd_Mo_relax_262 (nI_1 _) (kk := ?_)
                          refine gx_goto C 37 dd_Mo_relax_265 (kk := ?_)
                          refine gx_loc [0, 6, 7, 1, 8, 9] ?_
                          have hxf : we_xf A0 B0 i j x = some (((i * 9 + j) * 16 + x.1 / 1024), (((i + 1) * 9 + j) * 16 + x.1 % 16), x.2) := by
                            unfold we_xf
                            rw [pd, rd]
                          rw [lc_ge, ← Int64.not_lt, Classical.not_not, show lN (d + x.2) = mf (some (d + x.2)) from rfl, mf_lt (fun y hy => by cases hy; omega) (fun y hy => by have := hB1 _ _ hy; omega)] at h241
                          have hrx : ls_rx v1 (((i * 9 + j) * 16 + x.1 / 1024), (((i + 1) * 9 + j) * 16 + x.1 % 16), x.2) = va_up v1 (((i + 1) * 9 + j) * 16 + x.1 % 16) (some (d + x.2)) := (ls_rx_y (by show ls_lt (ls_ad (v1 ((i * 9 + j) * 16 + x.1 / 1024)) x.2) (v1 (((i + 1) * 9 + j) * 16 + x.1 % 16)) = true; rw [hvf]; exact h241)).trans (by show va_up v1 (((i + 1) * 9 + j) * 16 + x.1 % 16) (ls_ad (v1 ((i * 9 + j) * 16 + x.1 / 1024)) x.2) = _; rw [hvf]; rfl)
                          exact ihj (j + 1) 1 _ L259 (by omega) (by rw [wJ_y hxf, ls_rd_s, ← hv1]; exact hrx.symm) (mtb_up (by omega) (by omega) (by omega) hL259 rfl hmt) (by rw [← hrx]; exact sp_b_mono (sp_b_rx (w := 1000000001) hB1 (by show x.2 ≤ _; omega)) (by omega)) (Or.inr rfl) (fun e => absurd e (by decide)) (fun k hk => by rw [hL259, gm_un hk]; exact hLk k hk)
                  · obtain ⟨rl, rg⟩ : ∃ d, B0[j]? = some d := ⟨_, List.getElem?_eq_getElem r2⟩
                    have rb := hr62.2.2 rl (List.mem_of_getElem? rg)
                    refine gx_aload_n C 6 dd_Mo_relax_112 (kk := ?_)
                    refine mo_get C fd_Mo_35 dd_Mo_relax_113 (kk := ?_)
                    refine gx_iload_n C 4 dd_Mo_relax_116 (kk := ?_)
                    refine mo_l52 C dd_Mo_relax_117 (by omega) (kk := ?_)
                    refine gx_topi _ hxa.2.2.2.1 ?_
                    refine gx_if_eq C 146 dd_Mo_relax_118 (fun h118 => absurd h118 (nI_ne0 (by omega) (by omega))) (fun h118 => ?_)
                    refine gx_iload C 2 dd_Mo_relax_121 (kk := ?_)
                    refine gx_aload_n C 6 dd_Mo_relax_123 (kk := ?_)
                    refine mo_get C fd_Mo_165 dd_Mo_relax_124 (kk := ?_)
                    refine gx_topi _ hS24 ?_
                    refine gx_icmp_ge C 150 dd_Mo_relax_127 (fun h127 => absurd h127 (nI_ge (by omega) (by omega))) (fun h127 => ?_)
                    by_cases re : rl = x.1 / 16 % 8
                    · have rd : ro_dn B0 j (x.1 / 16 % 8) = some (j + 1) := ro_dn_y r1 (by rw [rg, re])
                      refine gx_aload_n C 6 dd_Mo_relax_130 (kk := ?_)
                      refine mo_get C fd_Mo_66 dd_Mo_relax_131 (kk := ?_)
                      refine gx_iload C 2 dd_Mo_relax_134 (kk := ?_)
                      refine mo_l62 C dd_Mo_relax_136 (by omega) (kk := ?_)
                      refine gx_topi _ (hr62.1 j rl rg) ?_
                      refine gx_aload_n C 6 dd_Mo_relax_137 (kk := ?_)
                      refine mo_get C fd_Mo_35 dd_Mo_relax_138 (kk := ?_)
                      refine gx_iload_n C 4 dd_Mo_relax_141 (kk := ?_)
                      refine mo_l52 C dd_Mo_relax_142 (by omega) (kk := ?_)
                      refine gx_topi _ hxa.2.2.2.1 ?_
                      refine gx_icmp_ne C 150 dd_Mo_relax_143 (fun h143 => absurd (congrArg nI re) h143) (fun h143 => ?_)
                      refine gx_iconst (v := nI 1) C dd_Mo_relax_146 (kk := ?_)
                      refine gx_goto C 151 dd_Mo_relax_147 (kk := ?_)
                      refine gx_istore C _ dd_Mo_relax_151 (kk := ?_)
                      refine gx_bipush (v := nI 81) C dd_Mo_relax_153 (kk := ?_)
                      refine gx_aload_n C 7 dd_Mo_relax_155 (kk := ?_)
                      refine mo_get C fd_Mo_29 dd_Mo_relax_156 (kk := ?_)
                      refine gx_iload_n C 5 dd_Mo_relax_159 (kk := ?_)
                      refine mo_l50 C dd_Mo_relax_160 (by omega) (kk := ?_)
                      refine gx_topi _ hxa.2.1 ?_
                      refine gx_imul C dd_Mo_relax_161 (kk := ?_)
                      refine gx_topi _ (pk_mul _ _) ?_
                      refine gx_bipush (v := nI 9) C dd_Mo_relax_162 (kk := ?_)
                      refine gx_aload_n C 7 dd_Mo_relax_164 (kk := ?_)
                      refine mo_get C fd_Mo_32 dd_Mo_relax_165 (kk := ?_)
                      refine gx_iload_n C 5 dd_Mo_relax_168 (kk := ?_)
                      refine mo_l51 C dd_Mo_relax_169 (by omega) (kk := ?_)
                      refine gx_topi _ hxa.2.2.1 ?_
                      refine gx_if_ne C 178 dd_Mo_relax_170 (fun h170 => ?_) (fun h170 => absurd h170 (nI_ne0 (by omega) (by omega)))
                      refine gx_iload C 4 dd_Mo_relax_178 (kk := ?_)
                      refine gx_iconst (v := nI 1) C dd_Mo_relax_180 (kk := ?_)
                      refine gx_iadd C dd_Mo_relax_181 (kk := ?_)
                      refine gx_topi _ (nI_add _ _) ?_
                      refine gx_imul C dd_Mo_relax_182 (kk := ?_)
                      refine gx_topi _ (pk_mul _ _) ?_
                      refine gx_iadd C dd_Mo_relax_183 (kk := ?_)
                      refine gx_topi _ (nI_add _ _) ?_
                      refine gx_aload_n C 7 dd_Mo_relax_184 (kk := ?_)
                      refine mo_get C fd_Mo_35 dd_Mo_relax_185 (kk := ?_)
                      refine gx_iload_n C 5 dd_Mo_relax_188 (kk := ?_)
                      refine mo_l52 C dd_Mo_relax_189 (by omega) (kk := ?_)
                      refine gx_topi _ hxa.2.2.2.1 ?_
                      refine gx_if_ne C 198 dd_Mo_relax_190 (fun h190 => ?_) (fun h190 => absurd h190 (nI_ne0 (by omega) (by omega)))
                      refine gx_iload C 3 dd_Mo_relax_198 (kk := ?_)
                      refine gx_iconst (v := nI 1) C dd_Mo_relax_200 (kk := ?_)
                      refine gx_iadd C dd_Mo_relax_201 (kk := ?_)
                      refine gx_topi _ (nI_add _ _) ?_
                      refine gx_iadd C dd_Mo_relax_202 (kk := ?_)
                      refine gx_topi _ (nI_add _ _) ?_
                      refine gx_istore C _ dd_Mo_relax_203 (kk := ?_)
                      rcases hvf : v1 ((i * 9 + j) * 16 + x.1 / 1024) with _ | d
                      · refine gx_lload C 3 dd_Mo_relax_205 (kk := ?_)
                        refine gx_ldc2 C dd_Mo_relax_207 kc_Mo_129 (kk := ?_)
                        refine gx_lcmp C dd_Mo_relax_210 (kk := ?_)
                        refine gx_if_ge C 262 dd_Mo_relax_211 (fun h211 => ?_) (fun h211 => absurd (by decide) h211)
                        refine gx_iinc C 4 (nI (j + 1)) _ dd_Mo_relax_262 (nI_1 _) (kk := ?_)
                        refine gx_goto C 37 dd_Mo_relax_265 (kk := ?_)
                        refine gx_loc [0, 5, 6, 7, 8, 9] ?_
                        have hxf : we_xf A0 B0 i j x = some (((i * 9 + j) * 16 + x.1 / 1024), (((i + 1) * 9 + (j + 1)) * 16 + x.1 % 16), x.2) := by
                          unfold we_xf
                          rw [pd, rd]
                        have hrx : ls_rx v1 (((i * 9 + j) * 16 + x.1 / 1024), (((i + 1) * 9 + (j + 1)) * 16 + x.1 % 16), x.2) = v1 := ls_rx_n (by show ¬ ls_lt (ls_ad (v1 ((i * 9 + j) * 16 + x.1 / 1024)) x.2) _ = true; rw [hvf]; simp [ls_ad, ls_lt])
                        exact ihj (j + 1) c v1 L1 (by omega) (by rw [wJ_y hxf, ls_rd_s, ← hv1]; exact hrx.symm) hmt (sp_b_mono hB1 (by omega)) hc01 hc0 hLk
                      · have hdb := hB1 _ _ hvf
                        refine gx_lload C 3 dd_Mo_relax_205 (kk := ?_)
                        refine gx_ldc2 C dd_Mo_relax_207 kc_Mo_129 (kk := ?_)
                        refine gx_lcmp C dd_Mo_relax_210 (kk := ?_)
                        refine gx_if_ge C 262 dd_Mo_relax_211 (fun h211 => absurd (lc_ge.mp h211) (mf_fl (by omega))) (fun h211 => ?_)
                        refine gx_iload C 2 dd_Mo_relax_214 (kk := ?_)
                        refine gx_if_eq C 262 dd_Mo_relax_216 (fun h216 => absurd h216 (by decide)) (fun h216 => ?_)
                        refine gx_iload C 1 dd_Mo_relax_219 (kk := ?_)
                        refine gx_if_eq C 262 dd_Mo_relax_221 (fun h221 => absurd h221 (by decide)) (fun h221 => ?_)
                        refine gx_lload C 3 dd_Mo_relax_224 (kk := ?_)
                        refine gx_topl (lN d) rfl ?_
                        refine gx_aload_n C 8 dd_Mo_relax_226 (kk := ?_)
                        refine mo_get C fd_Mo_38 dd_Mo_relax_227 (kk := ?_)
                        refine gx_iload_n C 6 dd_Mo_relax_230 (kk := ?_)
                        refine mo_l53 C dd_Mo_relax_231 (by omega) (kk := ?_)
                        refine gx_topl _ hxa.2.2.2.2 ?_
                        refine gx_ladd C dd_Mo_relax_232 (kk := ?_)
                        refine gx_topl _ (lN_add _ _) ?_
                        have ht0 := hmt (x.1 % 16) (i + 1) (j + 1) (by omega) (by omega) (by omega)
                        · refine gx_aload_n C 8 dd_Mo_relax_233 (kk := ?_)
                          refine mo_get C fd_Mo_60 dd_Mo_relax_234 (kk := ?_)
                          refine gx_iload C 0 dd_Mo_relax_237 (kk := ?_)
                          refine mo_l60 C dd_Mo_relax_239 (by omega) (kk := ?_)
                          refine gx_topl _ ht0 ?_
                          refine gx_lcmp C dd_Mo_relax_240 (kk := ?_)
                          refine gx_if_ge C 262 dd_Mo_relax_241 (fun h241 => ?_) (fun h241 => ?_)
                          · refine gx_iinc C 4 (nI (j + 1)) _ dd_Mo_relax_262 (nI_1 _) (kk := ?_)
                            refine gx_goto C 37 dd_Mo_relax_265 (kk := ?_)
                            refine gx_loc [0, 5, 6, 7, 8, 9] ?_
                            have hxf : we_xf A0 B0 i j x = some (((i * 9 + j) * 16 + x.1 / 1024), (((i + 1) * 9 + (j + 1)) * 16 + x.1 % 16), x.2) := by
                              unfold we_xf
                              rw [pd, rd]
                            rw [lc_ge, ← Int64.not_lt, show lN (d + x.2) = mf (some (d + x.2)) from rfl, mf_lt (fun y hy => by cases hy; omega) (fun y hy => by have := hB1 _ _ hy; omega)] at h241
                            have hrx : ls_rx v1 (((i * 9 + j) * 16 + x.1 / 1024), (((i + 1) * 9 + (j + 1)) * 16 + x.1 % 16), x.2) = v1 := ls_rx_n (by show ¬ ls_lt (ls_ad (v1 ((i * 9 + j) * 16 + x.1 / 1024)) x.2) (v1 (((i + 1) * 9 + (j + 1)) * 16 + x.1 % 16)) = true; rw [hvf]; exact h241)
                            exact ihj (j + 1) c v1 L1 (by omega) (by rw [wJ_y hxf, ls_rd_s, ← hv1]; exact hrx.symm) hmt (sp_b_mono hB1 (by omega)) hc01 hc0 hLk
                          · refine gx_aload_n C 8 dd_Mo_relax_244 (kk := ?_)
                            refine mo_get C fd_Mo_60 dd_Mo_relax_245 (kk := ?_)
                            refine gx_iload C 0 dd_Mo_relax_248 (kk := ?_)
                            refine gx_lload C 3 dd_Mo_relax_250 (kk := ?_)
                            refine gx_topl (lN d) rfl ?_
                            refine gx_aload_n C 8 dd_Mo_relax_252 (kk := ?_)
                            refine mo_get C fd_Mo_38 dd_Mo_relax_253 (kk := ?_)
                            refine gx_iload_n C 6 dd_Mo_relax_256 (kk := ?_)
                            refine mo_l53 C dd_Mo_relax_257 (by omega) (kk := ?_)
                            refine gx_topl _ hxa.2.2.2.2 ?_
                            refine gx_ladd C dd_Mo_relax_258 (kk := ?_)
                            refine gx_topl _ (lN_add _ _) ?_
                            refine mo_s60 C dd_Mo_relax_259 (by omega) (kk := fun L259 hL259 => ?_)
                            refine gx_iconst (v := nI 1) C dd_Mo_relax_260 (kk := ?_)
                            refine gx_istore_n C _ dd_Mo_relax_261 (kk := ?_)
                            refine gx_iinc C 5 (nI (j + 1)) _ dd_Mo_relax_262 (nI_1 _) (kk := ?_)
                            refine gx_goto C 37 dd_Mo_relax_265 (kk := ?_)
                            refine gx_loc [0, 6, 7, 1, 8, 9] ?_
                            have hxf : we_xf A0 B0 i j x = some (((i * 9 + j) * 16 + x.1 / 1024), (((i + 1) * 9 + (j + 1)) * 16 + x.1 % 16), x.2) := by
                              unfold we_xf
                              rw [pd, rd]
                            rw [lc_ge, ← Int64.not_lt, Classical.not_not, show lN (d + x.2) = mf (some (d + x.2)) from rfl, mf_lt (fun y hy => by cases hy; omega) (fun y hy => by have := hB1 _ _ hy; omega)] at h241
                            have hrx : ls_rx v1 (((i * 9 + j) * 16 + x.1 / 1024), (((i + 1) * 9 + (j + 1)) * 16 + x.1 % 16), x.2) = va_up v1 (((i + 1) * 9 + (j + 1)) * 16 + x.1 % 16) (some (d + x.2)) := (ls_rx_y (by show ls_lt (ls_ad (v1 ((i * 9 + j) * 16 + x.1 / 1024)) x.2) (v1 (((i + 1) * 9 + (j + 1)) * 16 + x.1 % 16)) = true; rw [hvf]; exact h241)).trans (by show va_up v1 (((i + 1) * 9 + (j + 1)) * 16 + x.1 % 16) (ls_ad (v1 ((i * 9 + j) * 16 + x.1 / 1024)) x.2) = _; rw [hvf]; rfl)
                            exact ihj (j + 1) 1 _ L259 (by omega) (by rw [wJ_y hxf, ls_rd_s, ← hv1]; exact hrx.symm) (mtb_up (by omega) (by omega) (by omega) hL259 rfl hmt) (by rw [← hrx]; exact sp_b_mono (sp_b_rx (w := 1000000001) hB1 (by show x.2 ≤ _; omega)) (by omega)) (Or.inr rfl) (fun e => absurd e (by decide)) (fun k hk => by rw [hL259, gm_un hk]; exact hLk k hk)
                    · have rd : ro_dn B0 j (x.1 / 16 % 8) = none := ro_dn_n r1 (fun cc => re (Option.some.inj (rg.symm.trans cc)))
                      refine gx_aload_n C 6 dd_Mo_relax_130 (kk := ?_)
                      refine mo_get C fd_Mo_66 dd_Mo_relax_131 (kk := ?_)
                      refine gx_iload C 2 dd_Mo_relax_134 (kk := ?_)
                      refine mo_l62 C dd_Mo_relax_136 (by omega) (kk := ?_)
                      refine gx_topi _ (hr62.1 j rl rg) ?_
                      refine gx_aload_n C 6 dd_Mo_relax_137 (kk := ?_)
                      refine mo_get C fd_Mo_35 dd_Mo_relax_138 (kk := ?_)
                      refine gx_iload_n C 4 dd_Mo_relax_141 (kk := ?_)
                      refine mo_l52 C dd_Mo_relax_142 (by omega) (kk := ?_)
                      refine gx_topi _ hxa.2.2.2.1 ?_
                      refine gx_icmp_ne C 150 dd_Mo_relax_143 (fun h143 => ?_) (fun h143 => absurd ((nI_eq (by omega) (by omega)).mp h143) re)
                      refine gx_iconst (v := nI 0) C dd_Mo_relax_150 (kk := ?_)
                      refine gx_istore C _ dd_Mo_relax_151 (kk := ?_)
                      refine gx_bipush (v := nI 81) C dd_Mo_relax_153 (kk := ?_)
                      refine gx_aload_n C 7 dd_Mo_relax_155 (kk := ?_)
                      refine mo_get C fd_Mo_29 dd_Mo_relax_156 (kk := ?_)
                      refine gx_iload_n C 5 dd_Mo_relax_159 (kk := ?_)
                      refine mo_l50 C dd_Mo_relax_160 (by omega) (kk := ?_)
                      refine gx_topi _ hxa.2.1 ?_
                      refine gx_imul C dd_Mo_relax_161 (kk := ?_)
                      refine gx_topi _ (pk_mul _ _) ?_
                      refine gx_bipush (v := nI 9) C dd_Mo_relax_162 (kk := ?_)
                      refine gx_aload_n C 7 dd_Mo_relax_164 (kk := ?_)
                      refine mo_get C fd_Mo_32 dd_Mo_relax_165 (kk := ?_)
                      refine gx_iload_n C 5 dd_Mo_relax_168 (kk := ?_)
                      refine mo_l51 C dd_Mo_relax_169 (by omega) (kk := ?_)
                      refine gx_topi _ hxa.2.2.1 ?_
                      refine gx_if_ne C 178 dd_Mo_relax_170 (fun h170 => ?_) (fun h170 => absurd h170 (nI_ne0 (by omega) (by omega)))
                      refine gx_iload C 4 dd_Mo_relax_178 (kk := ?_)
                      refine gx_iconst (v := nI 1) C dd_Mo_relax_180 (kk := ?_)
                      refine gx_iadd C dd_Mo_relax_181 (kk := ?_)
                      refine gx_topi _ (nI_add _ _) ?_
                      refine gx_imul C dd_Mo_relax_182 (kk := ?_)
                      refine gx_topi _ (pk_mul _ _) ?_
                      refine gx_iadd C dd_Mo_relax_183 (kk := ?_)
                      refine gx_topi _ (nI_add _ _) ?_
                      refine gx_aload_n C 7 dd_Mo_relax_184 (kk := ?_)
                      refine mo_get C fd_Mo_35 dd_Mo_relax_185 (kk := ?_)
                      refine gx_iload_n C 5 dd_Mo_relax_188 (kk := ?_)
                      refine mo_l52 C dd_Mo_relax_189 (by omega) (kk := ?_)
                      refine gx_topi _ hxa.2.2.2.1 ?_
                      refine gx_if_ne C 198 dd_Mo_relax_190 (fun h190 => ?_) (fun h190 => absurd h190 (nI_ne0 (by omega) (by omega)))
                      refine gx_iload C 3 dd_Mo_relax_198 (kk := ?_)
                      refine gx_iconst (v := nI 1) C dd_Mo_relax_200 (kk := ?_)
                      refine gx_iadd C dd_Mo_relax_201 (kk := ?_)
                      refine gx_topi _ (nI_add _ _) ?_
                      refine gx_iadd C dd_Mo_relax_202 (kk := ?_)
                      refine gx_topi _ (nI_add _ _) ?_
                      refine gx_istore C _ dd_Mo_relax_203 (kk := ?_)
                      rcases hvf : v1 ((i * 9 + j) * 16 + x.1 / 1024) with _ | d
                      · refine gx_lload C 3 dd_Mo_relax_205 (kk := ?_)
                        refine gx_ldc2 C dd_Mo_relax_207 kc_Mo_129 (kk := ?_)
                        refine gx_lcmp C dd_Mo_relax_210 (kk := ?_)
                        refine gx_if_ge C 262 dd_Mo_relax_211 (fun h211 => ?_) (fun h211 => absurd (by decide) h211)
                        refine gx_iinc C 4 (nI (j + 1)) _ dd_Mo_relax_262 (nI_1 _) (kk := ?_)
                        refine gx_goto C 37 dd_Mo_relax_265 (kk := ?_)
                        refine gx_loc [0, 5, 6, 7, 8, 9] ?_
                        have hxf : we_xf A0 B0 i j x = none := by
                          unfold we_xf
                          rw [pd, rd]
                        exact ihj (j + 1) c v1 L1 (by omega) (by rw [wJ_n hxf]; exact hv1) hmt (sp_b_mono hB1 (by omega)) hc01 hc0 hLk
                      · have hdb := hB1 _ _ hvf
                        refine gx_lload C 3 dd_Mo_relax_205 (kk := ?_)
                        refine gx_ldc2 C dd_Mo_relax_207 kc_Mo_129 (kk := ?_)
                        refine gx_lcmp C dd_Mo_relax_210 (kk := ?_)
                        refine gx_if_ge C 262 dd_Mo_relax_211 (fun h211 => absurd (lc_ge.mp h211) (mf_fl (by omega))) (fun h211 => ?_)
                        refine gx_iload C 2 dd_Mo_relax_214 (kk := ?_)
                        refine gx_if_eq C 262 dd_Mo_relax_216 (fun h216 => absurd h216 (by decide)) (fun h216 => ?_)
                        refine gx_iload C 1 dd_Mo_relax_219 (kk := ?_)
                        refine gx_if_eq C 262 dd_Mo_relax_221 (fun h221 => ?_) (fun h221 => absurd rfl h221)
                        refine gx_iinc C 4 (nI (j + 1)) _ dd_Mo_relax_262 (nI_1 _) (kk := ?_)
                        refine gx_goto C 37 dd_Mo_relax_265 (kk := ?_)
                        refine gx_loc [0, 5, 6, 7, 8, 9] ?_
                        have hxf : we_xf A0 B0 i j x = none := by
                          unfold we_xf
                          rw [pd, rd]
                        exact ihj (j + 1) c v1 L1 (by omega) (by rw [wJ_n hxf]; exact hv1) hmt (sp_b_mono hB1 (by omega)) hc01 hc0 hLk
                  · have rd : ro_dn B0 j (x.1 / 16 % 8) = none := ro_dn_n r1 (by rw [List.getElem?_eq_none r2]; simp)
                    refine gx_aload_n C 6 dd_Mo_relax_112 (kk := ?_)
                    refine mo_get C fd_Mo_35 dd_Mo_relax_113 (kk := ?_)
                    refine gx_iload_n C 4 dd_Mo_relax_116 (kk := ?_)
                    refine mo_l52 C dd_Mo_relax_117 (by omega) (kk := ?_)
                    refine gx_topi _ hxa.2.2.2.1 ?_
                    refine gx_if_eq C 146 dd_Mo_relax_118 (fun h118 => absurd h118 (nI_ne0 (by omega) (by omega))) (fun h118 => ?_)
                    refine gx_iload C 2 dd_Mo_relax_121 (kk := ?_)
                    refine gx_aload_n C 6 dd_Mo_relax_123 (kk := ?_)
                    refine mo_get C fd_Mo_165 dd_Mo_relax_124 (kk := ?_)
                    refine gx_topi _ hS24 ?_
                    refine gx_icmp_ge C 150 dd_Mo_relax_127 (fun h127 => ?_) (fun h127 => absurd (nI_le (by omega) (by omega)) h127)
                    refine gx_iconst (v := nI 0) C dd_Mo_relax_150 (kk := ?_)
                    refine gx_istore C _ dd_Mo_relax_151 (kk := ?_)
                    refine gx_bipush (v := nI 81) C dd_Mo_relax_153 (kk := ?_)
                    refine gx_aload_n C 7 dd_Mo_relax_155 (kk := ?_)
                    refine mo_get C fd_Mo_29 dd_Mo_relax_156 (kk := ?_)
                    refine gx_iload_n C 5 dd_Mo_relax_159 (kk := ?_)
                    refine mo_l50 C dd_Mo_relax_160 (by omega) (kk := ?_)
                    refine gx_topi _ hxa.2.1 ?_
                    refine gx_imul C dd_Mo_relax_161 (kk := ?_)
                    refine gx_topi _ (pk_mul _ _) ?_
                    refine gx_bipush (v := nI 9) C dd_Mo_relax_162 (kk := ?_)
                    refine gx_aload_n C 7 dd_Mo_relax_164 (kk := ?_)
                    refine mo_get C fd_Mo_32 dd_Mo_relax_165 (kk := ?_)
                    refine gx_iload_n C 5 dd_Mo_relax_168 (kk := ?_)
                    refine mo_l51 C dd_Mo_relax_169 (by omega) (kk := ?_)
                    refine gx_topi _ hxa.2.2.1 ?_
                    refine gx_if_ne C 178 dd_Mo_relax_170 (fun h170 => ?_) (fun h170 => absurd h170 (nI_ne0 (by omega) (by omega)))
                    refine gx_iload C 4 dd_Mo_relax_178 (kk := ?_)
                    refine gx_iconst (v := nI 1) C dd_Mo_relax_180 (kk := ?_)
                    refine gx_iadd C dd_Mo_relax_181 (kk := ?_)
                    refine gx_topi _ (nI_add _ _) ?_
                    refine gx_imul C dd_Mo_relax_182 (kk := ?_)
                    refine gx_topi _ (pk_mul _ _) ?_
                    refine gx_iadd C dd_Mo_relax_183 (kk := ?_)
                    refine gx_topi _ (nI_add _ _) ?_
                    refine gx_aload_n C 7 dd_Mo_relax_184 (kk := ?_)
                    refine mo_get C fd_Mo_35 dd_Mo_relax_185 (kk := ?_)
                    refine gx_iload_n C 5 dd_Mo_relax_188 (kk := ?_)
                    refine mo_l52 C dd_Mo_relax_189 (by omega) (kk := ?_)
                    refine gx_topi _ hxa.2.2.2.1 ?_
                    refine gx_if_ne C 198 dd_Mo_relax_190 (fun h190 => ?_) (fun h190 => absurd h190 (nI_ne0 (by omega) (by omega)))
                    refine gx_iload C 3 dd_Mo_relax_198 (kk := ?_)
                    refine gx_iconst (v := nI 1) C dd_Mo_relax_200 (kk := ?_)
                    refine gx_iadd C dd_Mo_relax_201 (kk := ?_)
                    refine gx_topi _ (nI_add _ _) ?_
                    refine gx_iadd C dd_Mo_relax_202 (kk := ?_)
                    refine gx_topi _ (nI_add _ _) ?_
                    refine gx_istore C _ dd_Mo_relax_203 (kk := ?_)
                    rcases hvf : v1 ((i * 9 + j) * 16 + x.1 / 1024) with _ | d
                    · refine gx_lload C 3 dd_Mo_relax_205 (kk := ?_)
                      refine gx_ldc2 C dd_Mo_relax_207 kc_Mo_129 (kk := ?_)
                      refine gx_lcmp C dd_Mo_relax_210 (kk := ?_)
                      refine gx_if_ge C 262 dd_Mo_relax_211 (fun h211 => ?_) (fun h211 => absurd (by decide) h211)
                      refine gx_iinc C 4 (nI (j + 1)) _ dd_Mo_relax_262 (nI_1 _) (kk := ?_)
                      refine gx_goto C 37 dd_Mo_relax_265 (kk := ?_)
                      refine gx_loc [0, 5, 6, 7, 8, 9] ?_
                      have hxf : we_xf A0 B0 i j x = none := by
                        unfold we_xf
                        rw [pd, rd]
                      exact ihj (j + 1) c v1 L1 (by omega) (by rw [wJ_n hxf]; exact hv1) hmt (sp_b_mono hB1 (by omega)) hc01 hc0 hLk
                    · have hdb := hB1 _ _ hvf
                      refine gx_lload C 3 dd_Mo_relax_205 (kk := ?_)
                      refine gx_ldc2 C dd_Mo_relax_207 kc_Mo_129 (kk := ?_)
                      refine gx_lcmp C dd_Mo_relax_210 (kk := ?_)
                      refine gx_if_ge C 262 dd_Mo_relax_211 (fun h211 => absurd (lc_ge.mp h211) (mf_fl (by omega))) (fun h211 => ?_)
                      refine gx_iload C 2 dd_Mo_relax_214 (kk := ?_)
                      refine gx_if_eq C 262 dd_Mo_relax_216 (fun h216 => absurd h216 (by decide)) (fun h216 => ?_)
                      refine gx_iload C 1 dd_Mo_relax_219 (kk := ?_)
                      refine gx_if_eq C 262 dd_Mo_relax_221 (fun h221 => ?_) (fun h221 => absurd rfl h221)
                      refine gx_iinc C 4 (nI (j + 1)) _ dd_Mo_relax_262 (nI_1 _) (kk := ?_)
                      refine gx_goto C 37 dd_Mo_relax_265 (kk := ?_)
                      refine gx_loc [0, 5, 6, 7, 8, 9] ?_
                      have hxf : we_xf A0 B0 i j x = none := by
                        unfold we_xf
                        rw [pd, rd]
                      exact ihj (j + 1) c v1 L1 (by omega) (by rw [wJ_n hxf]; exact hv1) hmt (sp_b_mono hB1 (by omega)) hc01 hc0 hLk
                · have pd : ro_dn A0 i (x.1 / 128 % 8) = none := ro_dn_n p1 (fun cc => pe (Option.some.inj (pg.symm.trans cc)))
                  refine gx_aload_n C 5 dd_Mo_relax_89 (kk := ?_)
                  refine mo_get C fd_Mo_63 dd_Mo_relax_90 (kk := ?_)
                  refine gx_iload C 2 dd_Mo_relax_93 (kk := ?_)
                  refine mo_l61 C dd_Mo_relax_95 (by omega) (kk := ?_)
                  refine gx_topi _ (hr61.1 i pl pg) ?_
                  refine gx_aload_n C 5 dd_Mo_relax_96 (kk := ?_)
                  refine mo_get C fd_Mo_32 dd_Mo_relax_97 (kk := ?_)
                  refine gx_iload_n C 3 dd_Mo_relax_100 (kk := ?_)
                  refine mo_l51 C dd_Mo_relax_101 (by omega) (kk := ?_)
                  refine gx_topi _ hxa.2.2.1 ?_
                  refine gx_icmp_ne C 109 dd_Mo_relax_102 (fun h102 => ?_) (fun h102 => absurd ((nI_eq (by omega) (by omega)).mp h102) pe)
                  refine gx_iconst (v := nI 0) C dd_Mo_relax_109 (kk := ?_)
                  refine gx_istore C _ dd_Mo_relax_110 (kk := ?_)
                  rcases (show x.1 / 16 % 8 = 0 ∨ (¬ x.1 / 16 % 8 = 0 ∧ j < B0.length) ∨ (¬ x.1 / 16 % 8 = 0 ∧ B0.length ≤ j) by omega) with r1 | ⟨r1, r2⟩ | ⟨r1, r2⟩
                  · have rd : ro_dn B0 j (x.1 / 16 % 8) = some j := by
                      rw [r1]
                      exact ro_dn_0
                    refine gx_aload_n C 6 dd_Mo_relax_112 (kk := ?_)
                    refine mo_get C fd_Mo_35 dd_Mo_relax_113 (kk := ?_)
                    refine gx_iload_n C 4 dd_Mo_relax_116 (kk := ?_)
                    refine mo_l52 C dd_Mo_relax_117 (by omega) (kk := ?_)
                    refine gx_topi _ hxa.2.2.2.1 ?_
                    refine gx_if_eq C 146 dd_Mo_relax_118 (fun h118 => ?_) (fun h118 => absurd (show nI (x.1 / 16 % 8) = 0 by rw [r1]; rfl) h118)
                    refine gx_iconst (v := nI 1) C dd_Mo_relax_146 (kk := ?_)
                    refine gx_goto C 151 dd_Mo_relax_147 (kk := ?_)
                    refine gx_istore C _ dd_Mo_relax_151 (kk := ?_)
                    refine gx_bipush (v := nI 81) C dd_Mo_relax_153 (kk := ?_)
                    refine gx_aload_n C 7 dd_Mo_relax_155 (kk := ?_)
                    refine mo_get C fd_Mo_29 dd_Mo_relax_156 (kk := ?_)
                    refine gx_iload_n C 5 dd_Mo_relax_159 (kk := ?_)
                    refine mo_l50 C dd_Mo_relax_160 (by omega) (kk := ?_)
                    refine gx_topi _ hxa.2.1 ?_
                    refine gx_imul C dd_Mo_relax_161 (kk := ?_)
                    refine gx_topi _ (pk_mul _ _) ?_
                    refine gx_bipush (v := nI 9) C dd_Mo_relax_162 (kk := ?_)
                    refine gx_aload_n C 7 dd_Mo_relax_164 (kk := ?_)
                    refine mo_get C fd_Mo_32 dd_Mo_relax_165 (kk := ?_)
                    refine gx_iload_n C 5 dd_Mo_relax_168 (kk := ?_)
                    refine mo_l51 C dd_Mo_relax_169 (by omega) (kk := ?_)
                    refine gx_topi _ hxa.2.2.1 ?_
                    refine gx_if_ne C 178 dd_Mo_relax_170 (fun h170 => ?_) (fun h170 => absurd h170 (nI_ne0 (by omega) (by omega)))
                    refine gx_iload C 4 dd_Mo_relax_178 (kk := ?_)
                    refine gx_iconst (v := nI 1) C dd_Mo_relax_180 (kk := ?_)
                    refine gx_iadd C dd_Mo_relax_181 (kk := ?_)
                    refine gx_topi _ (nI_add _ _) ?_
                    refine gx_imul C dd_Mo_relax_182 (kk := ?_)
                    refine gx_topi _ (pk_mul _ _) ?_
                    refine gx_iadd C dd_Mo_relax_183 (kk := ?_)
                    refine gx_topi _ (nI_add _ _) ?_
                    refine gx_aload_n C 7 dd_Mo_relax_184 (kk := ?_)
                    refine mo_get C fd_Mo_35 dd_Mo_relax_185 (kk := ?_)
                    refine gx_iload_n C 5 dd_Mo_relax_188 (kk := ?_)
                    refine mo_l52 C dd_Mo_relax_189 (by omega) (kk := ?_)
                    refine gx_topi _ hxa.2.2.2.1 ?_
                    refine gx_if_ne C 198 dd_Mo_relax_190 (fun h190 => absurd (show nI (x.1 / 16 % 8) = 0 by rw [r1]; rfl) h190) (fun h190 => ?_)
                    refine gx_iload C 3 dd_Mo_relax_193 (kk := ?_)
                    refine gx_goto C 202 dd_Mo_relax_195 (kk := ?_)
                    refine gx_iadd C dd_Mo_relax_202 (kk := ?_)
                    refine gx_topi _ (nI_add _ _) ?_
                    refine gx_istore C _ dd_Mo_relax_203 (kk := ?_)
                    rcases hvf : v1 ((i * 9 + j) * 16 + x.1 / 1024) with _ | d
                    · refine gx_lload C 3 dd_Mo_relax_205 (kk := ?_)
                      refine gx_ldc2 C dd_Mo_relax_207 kc_Mo_129 (kk := ?_)
                      refine gx_lcmp C dd_Mo_relax_210 (kk := ?_)
                      refine gx_if_ge C 262 dd_Mo_relax_211 (fun h211 => ?_) (fun h211 => absurd (by decide) h211)
                      refine gx_iinc C 4 (nI (j + 1)) _ dd_Mo_relax_262 (nI_1 _) (kk := ?_)
                      refine gx_goto C 37 dd_Mo_relax_265 (kk := ?_)
                      refine gx_loc [0, 5, 6, 7, 8, 9] ?_
                      have hxf : we_xf A0 B0 i j x = none := by
                        unfold we_xf
                        rw [pd]
                      exact ihj (j + 1) c v1 L1 (by omega) (by rw [wJ_n hxf]; exact hv1) hmt (sp_b_mono hB1 (by omega)) hc01 hc0 hLk
                    · have hdb := hB1 _ _ hvf
                      refine gx_lload C 3 dd_Mo_relax_205 (kk := ?_)
                      refine gx_ldc2 C dd_Mo_relax_207 kc_Mo_129 (kk := ?_)
                      refine gx_lcmp C dd_Mo_relax_210 (kk := ?_)
                      refine gx_if_ge C 262 dd_Mo_relax_211 (fun h211 => absurd (lc_ge.mp h211) (mf_fl (by omega))) (fun h211 => ?_)
                      refine gx_iload C 2 dd_Mo_relax_214 (kk := ?_)
                      refine gx_if_eq C 262 dd_Mo_relax_216 (fun h216 => ?_) (fun h216 => absurd rfl h216)
                      refine gx_iinc C 4 (nI (j + 1)) _ dd_Mo_relax_262 (nI_1 _) (kk := ?_)
                      refine gx_goto C 37 dd_Mo_relax_265 (kk := ?_)
                      refine gx_loc [0, 5, 6, 7, 8, 9] ?_
                      have hxf : we_xf A0 B0 i j x = none := by
                        unfold we_xf
                        rw [pd]
                      exact ihj (j + 1) c v1 L1 (by omega) (by rw [wJ_n hxf]; exact hv1) hmt (sp_b_mono hB1 (by omega)) hc01 hc0 hLk
                  · obtain ⟨rl, rg⟩ : ∃ d, B0[j]? = some d := ⟨_, List.getElem?_eq_getElem r2⟩
                    have rb := hr62.2.2 rl (List.mem_of_getElem? rg)
                    refine gx_aload_n C 6 dd_Mo_relax_112 (kk := ?_)
                    refine mo_get C fd_Mo_35 dd_Mo_relax_113 (kk := ?_)
                    refine gx_iload_n C 4 dd_Mo_relax_116 (kk := ?_)
                    refine mo_l52 C dd_Mo_relax_117 (by omega) (kk := ?_)
                    refine gx_topi _ hxa.2.2.2.1 ?_
                    refine gx_if_eq C 146 dd_Mo_relax_118 (fun h118 => absurd h118 (nI_ne0 (by omega) (by omega))) (fun h118 => ?_)
                    refine gx_iload C 2 dd_Mo_relax_121 (kk := ?_)
                    refine gx_aload_n C 6 dd_Mo_relax_123 (kk := ?_)
                    refine mo_get C fd_Mo_165 dd_Mo_relax_124 (kk := ?_)
                    refine gx_topi _ hS24 ?_
                    refine gx_icmp_ge C 150 dd_Mo_relax_127 (fun h127 => absurd h127 (nI_ge (by omega) (by omega))) (fun h127 => ?_)
                    by_cases re : rl = x.1 / 16 % 8
                    · have rd : ro_dn B0 j (x.1 / 16 % 8) = some (j + 1) := ro_dn_y r1 (by rw [rg, re])
                      refine gx_aload_n C 6 dd_Mo_relax_130 (kk := ?_)
                      refine mo_get C fd_Mo_66 dd_Mo_relax_131 (kk := ?_)
                      refine gx_iload C 2 dd_Mo_relax_134 (kk := ?_)
                      refine mo_l62 C dd_Mo_relax_136 (by omega) (kk := ?_)
                      refine gx_topi _ (hr62.1 j rl rg) ?_
                      refine gx_aload_n C 6 dd_Mo_relax_137 (kk := ?_)
                      refine mo_get C fd_Mo_35 dd_Mo_relax_138 (kk := ?_)
                      refine gx_iload_n C 4 dd_Mo_relax_141 (kk := ?_)
                      refine mo_l52 C dd_Mo_relax_142 (by omega) (kk := ?_)
                      refine gx_topi _ hxa.2.2.2.1 ?_
                      refine gx_icmp_ne C 150 dd_Mo_relax_143 (fun h143 => absurd (congrArg nI re) h143) (fun h143 => ?_)
                      refine gx_iconst (v := nI 1) C dd_Mo_relax_146 (kk := ?_)
                      refine gx_goto C 151 dd_Mo_relax_147 (kk := ?_)
                      refine gx_istore C _ dd_Mo_relax_151 (kk := ?_)
                      refine gx_bipush (v := nI 81) C dd_Mo_relax_153 (kk := ?_)
                      refine gx_aload_n C 7 dd_Mo_relax_155 (kk := ?_)
                      refine mo_get C fd_Mo_29 dd_Mo_relax_156 (kk := ?_)
                      refine gx_iload_n C 5 dd_Mo_relax_159 (kk := ?_)
                      refine mo_l50 C dd_Mo_relax_160 (by omega) (kk := ?_)
                      refine gx_topi _ hxa.2.1 ?_
                      refine gx_imul C dd_Mo_relax_161 (kk := ?_)
                      refine gx_topi _ (pk_mul _ _) ?_
                      refine gx_bipush (v := nI 9) C dd_Mo_relax_162 (kk := ?_)
                      refine gx_aload_n C 7 dd_Mo_relax_164 (kk := ?_)
                      refine mo_get C fd_Mo_32 dd_Mo_relax_165 (kk := ?_)
                      refine gx_iload_n C 5 dd_Mo_relax_168 (kk := ?_)
                      refine mo_l51 C dd_Mo_relax_169 (by omega) (kk := ?_)
                      refine gx_topi _ hxa.2.2.1 ?_
                      refine gx_if_ne C 178 dd_Mo_relax_170 (fun h170 => ?_) (fun h170 => absurd h170 (nI_ne0 (by omega) (by omega)))
                      refine gx_iload C 4 dd_Mo_relax_178 (kk := ?_)
                      refine gx_iconst (v := nI 1) C dd_Mo_relax_180 (kk := ?_)
                      refine gx_iadd C dd_Mo_relax_181 (kk := ?_)
                      refine gx_topi _ (nI_add _ _) ?_
                      refine gx_imul C dd_Mo_relax_182 (kk := ?_)
                      refine gx_topi _ (pk_mul _ _) ?_
                      refine gx_iadd C dd_Mo_relax_183 (kk := ?_)
                      refine gx_topi _ (nI_add _ _) ?_
                      refine gx_aload_n C 7 dd_Mo_relax_184 (kk := ?_)
                      refine mo_get C fd_Mo_35 dd_Mo_relax_185 (kk := ?_)
                      refine gx_iload_n C 5 dd_Mo_relax_188 (kk := ?_)
                      refine mo_l52 C dd_Mo_relax_189 (by omega) (kk := ?_)
                      refine gx_topi _ hxa.2.2.2.1 ?_
                      refine gx_if_ne C 198 dd_Mo_relax_190 (fun h190 => ?_) (fun h190 => absurd h190 (nI_ne0 (by omega) (by omega)))
                      refine gx_iload C 3 dd_Mo_relax_198 (kk := ?_)
                      refine gx_iconst (v := nI 1) C dd_Mo_relax_200 (kk := ?_)
                      refine gx_iadd C dd_Mo_relax_201 (kk := ?_)
                      refine gx_topi _ (nI_add _ _) ?_
                      refine gx_iadd C dd_Mo_relax_202 (kk := ?_)
                      refine gx_topi _ (nI_add _ _) ?_
                      refine gx_istore C _ dd_Mo_relax_203 (kk := ?_)
                      rcases hvf : v1 ((i * 9 + j) * 16 + x.1 / 1024) with _ | d
                      · refine gx_lload C 3 dd_Mo_relax_205 (kk := ?_)
                        refine gx_ldc2 C dd_Mo_relax_207 kc_Mo_129 (kk := ?_)
                        refine gx_lcmp C dd_Mo_relax_210 (kk := ?_)
                        refine gx_if_ge C 262 dd_Mo_relax_211 (fun h211 => ?_) (fun h211 => absurd (by decide) h211)
                        refine gx_iinc C 4 (nI (j + 1)) _ dd_Mo_relax_262 (nI_1 _) (kk := ?_)
                        refine gx_goto C 37 dd_Mo_relax_265 (kk := ?_)
                        refine gx_loc [0, 5, 6, 7, 8, 9] ?_
                        have hxf : we_xf A0 B0 i j x = none := by
                          unfold we_xf
                          rw [pd]
                        exact ihj (j + 1) c v1 L1 (by omega) (by rw [wJ_n hxf]; exact hv1) hmt (sp_b_mono hB1 (by omega)) hc01 hc0 hLk
                      · have hdb := hB1 _ _ hvf
                        refine gx_lload C 3 dd_Mo_relax_205 (kk := ?_)
                        refine gx_ldc2 C dd_Mo_relax_207 kc_Mo_129 (kk := ?_)
                        refine gx_lcmp C dd_Mo_relax_210 (kk := ?_)
                        refine gx_if_ge C 262 dd_Mo_relax_211 (fun h211 => absurd (lc_ge.mp h211) (mf_fl (by omega))) (fun h211 => ?_)
                        refine gx_iload C 2 dd_Mo_relax_214 (kk := ?_)
                        refine gx_if_eq C 262 dd_Mo_relax_216 (fun h216 => ?_) (fun h216 => absurd rfl h216)
                        refine gx_iinc C 4 (nI (j + 1)) _ dd_Mo_relax_262 (nI_1 _) (kk := ?_)
                        refine gx_goto C 37 dd_Mo_relax_265 (kk := ?_)
                        refine gx_loc [0, 5, 6, 7, 8, 9] ?_
                        have hxf : we_xf A0 B0 i j x = none := by
                          unfold we_xf
                          rw [pd]
                        exact ihj (j + 1) c v1 L1 (by omega) (by rw [wJ_n hxf]; exact hv1) hmt (sp_b_mono hB1 (by omega)) hc01 hc0 hLk
                    · have rd : ro_dn B0 j (x.1 / 16 % 8) = none := ro_dn_n r1 (fun cc => re (Option.some.inj (rg.symm.trans cc)))
                      refine gx_aload_n C 6 dd_Mo_relax_130 (kk := ?_)
                      refine mo_get C fd_Mo_66 dd_Mo_relax_131 (kk := ?_)
                      refine gx_iload C 2 dd_Mo_relax_134 (kk := ?_)
                      refine mo_l62 C dd_Mo_relax_136 (by omega) (kk := ?_)
                      refine gx_topi _ (hr62.1 j rl rg) ?_
                      refine gx_aload_n C 6 dd_Mo_relax_137 (kk := ?_)
                      refine mo_get C fd_Mo_35 dd_Mo_relax_138 (kk := ?_)
                      refine gx_iload_n C 4 dd_Mo_relax_141 (kk := ?_)
                      refine mo_l52 C dd_Mo_relax_142 (by omega) (kk := ?_)
                      refine gx_topi _ hxa.2.2.2.1 ?_
                      refine gx_icmp_ne C 150 dd_Mo_relax_143 (fun h143 => ?_) (fun h143 => absurd ((nI_eq (by omega) (by omega)).mp h143) re)
                      refine gx_iconst (v := nI 0) C dd_Mo_relax_150 (kk := ?_)
                      refine gx_istore C _ dd_Mo_relax_151 (kk := ?_)
                      refine gx_bipush (v := nI 81) C dd_Mo_relax_153 (kk := ?_)
                      refine gx_aload_n C 7 dd_Mo_relax_155 (kk := ?_)
                      refine mo_get C fd_Mo_29 dd_Mo_relax_156 (kk := ?_)
                      refine gx_iload_n C 5 dd_Mo_relax_159 (kk := ?_)
                      refine mo_l50 C dd_Mo_relax_160 (by omega) (kk := ?_)
                      refine gx_topi _ hxa.2.1 ?_
                      refine gx_imul C dd_Mo_relax_161 (kk := ?_)
                      refine gx_topi _ (pk_mul _ _) ?_
                      refine gx_bipush (v := nI 9) C dd_Mo_relax_162 (kk := ?_)
                      refine gx_aload_n C 7 dd_Mo_relax_164 (kk := ?_)
                      refine mo_get C fd_Mo_32 dd_Mo_relax_165 (kk := ?_)
                      refine gx_iload_n C 5 dd_Mo_relax_168 (kk := ?_)
                      refine mo_l51 C dd_Mo_relax_169 (by omega) (kk := ?_)
                      refine gx_topi _ hxa.2.2.1 ?_
                      refine gx_if_ne C 178 dd_Mo_relax_170 (fun h170 => ?_) (fun h170 => absurd h170 (nI_ne0 (by omega) (by omega)))
                      refine gx_iload C 4 dd_Mo_relax_178 (kk := ?_)
                      refine gx_iconst (v := nI 1) C dd_Mo_relax_180 (kk := ?_)
                      refine gx_iadd C dd_Mo_relax_181 (kk := ?_)
                      refine gx_topi _ (nI_add _ _) ?_
                      refine gx_imul C dd_Mo_relax_182 (kk := ?_)
                      refine gx_topi _ (pk_mul _ _) ?_
                      refine gx_iadd C dd_Mo_relax_183 (kk := ?_)
                      refine gx_topi _ (nI_add _ _) ?_
                      refine gx_aload_n C 7 dd_Mo_relax_184 (kk := ?_)
                      refine mo_get C fd_Mo_35 dd_Mo_relax_185 (kk := ?_)
                      refine gx_iload_n C 5 dd_Mo_relax_188 (kk := ?_)
                      refine mo_l52 C dd_Mo_relax_189 (by omega) (kk := ?_)
                      refine gx_topi _ hxa.2.2.2.1 ?_
                      refine gx_if_ne C 198 dd_Mo_relax_190 (fun h190 => ?_) (fun h190 => absurd h190 (nI_ne0 (by omega) (by omega)))
                      refine gx_iload C 3 dd_Mo_relax_198 (kk := ?_)
                      refine gx_iconst (v := nI 1) C dd_Mo_relax_200 (kk := ?_)
                      refine gx_iadd C dd_Mo_relax_201 (kk := ?_)
                      refine gx_topi _ (nI_add _ _) ?_
                      refine gx_iadd C dd_Mo_relax_202 (kk := ?_)
                      refine gx_topi _ (nI_add _ _) ?_
                      refine gx_istore C _ dd_Mo_relax_203 (kk := ?_)
                      rcases hvf : v1 ((i * 9 + j) * 16 + x.1 / 1024) with _ | d
                      · refine gx_lload C 3 dd_Mo_relax_205 (kk := ?_)
                        refine gx_ldc2 C dd_Mo_relax_207 kc_Mo_129 (kk := ?_)
                        refine gx_lcmp C dd_Mo_relax_210 (kk := ?_)
                        refine gx_if_ge C 262 dd_Mo_relax_211 (fun h211 => ?_) (fun h211 => absurd (by decide) h211)
                        refine gx_iinc C 4 (nI (j + 1)) _ dd_Mo_relax_262 (nI_1 _) (kk := ?_)
                        refine gx_goto C 37 dd_Mo_relax_265 (kk := ?_)
                        refine gx_loc [0, 5, 6, 7, 8, 9] ?_
                        have hxf : we_xf A0 B0 i j x = none := by
                          unfold we_xf
                          rw [pd]
                        exact ihj (j + 1) c v1 L1 (by omega) (by rw [wJ_n hxf]; exact hv1) hmt (sp_b_mono hB1 (by omega)) hc01 hc0 hLk
                      · have hdb := hB1 _ _ hvf
                        refine gx_lload C 3 dd_Mo_relax_205 (kk := ?_)
                        refine gx_ldc2 C dd_Mo_relax_207 kc_Mo_129 (kk := ?_)
                        refine gx_lcmp C dd_Mo_relax_210 (kk := ?_)
                        refine gx_if_ge C 262 dd_Mo_relax_211 (fun h211 => absurd (lc_ge.mp h211) (mf_fl (by omega))) (fun h211 => ?_)
                        refine gx_iload C 2 dd_Mo_relax_214 (kk := ?_)
                        refine gx_if_eq C 262 dd_Mo_relax_216 (fun h216 => ?_) (fun h216 => absurd rfl h216)
                        refine gx_iinc C 4 (nI (j + 1)) _ dd_Mo_relax_262 (nI_1 _) (kk := ?_)
                        refine gx_goto C 37 dd_Mo_relax_265 (kk := ?_)
                        refine gx_loc [0, 5, 6, 7, 8, 9] ?_
                        have hxf : we_xf A0 B0 i j x = none := by
                          unfold we_xf
                          rw [pd]
                        exact ihj (j + 1) c v1 L1 (by omega) (by rw [wJ_n hxf]; exact hv1) hmt (sp_b_mono hB1 (by omega)) hc01 hc0 hLk
                  · have rd : ro_dn B0 j (x.1 / 16 % 8) = none := ro_dn_n r1 (by rw [List.getElem?_eq_none r2]; simp)
                    refine gx_aload_n C 6 dd_Mo_relax_112 (kk := ?_)
                    refine mo_get C fd_Mo_35 dd_Mo_relax_113 (kk := ?_)
                    refine gx_iload_n C 4 dd_Mo_relax_116 (kk := ?_)
                    refine mo_l52 C dd_Mo_relax_117 (by omega) (kk := ?_)
                    refine gx_topi _ hxa.2.2.2.1 ?_
                    refine gx_if_eq C 146 dd_Mo_relax_118 (fun h118 => absurd h118 (nI_ne0 (by omega) (by omega))) (fun h118 => ?_)
                    refine gx_iload C 2 dd_Mo_relax_121 (kk := ?_)
                    refine gx_aload_n C 6 dd_Mo_relax_123 (kk := ?_)
                    refine mo_get C fd_Mo_165 dd_Mo_relax_124 (kk := ?_)
                    refine gx_topi _ hS24 ?_
                    refine gx_icmp_ge C 150 dd_Mo_relax_127 (fun h127 => ?_) (fun h127 => absurd (nI_le (by omega) (by omega)) h127)
                    refine gx_iconst (v := nI 0) C dd_Mo_relax_150 (kk := ?_)
                    refine gx_istore C _ dd_Mo_relax_151 (kk := ?_)
                    refine gx_bipush (v := nI 81) C dd_Mo_relax_153 (kk := ?_)
                    refine gx_aload_n C 7 dd_Mo_relax_155 (kk := ?_)
                    refine mo_get C fd_Mo_29 dd_Mo_relax_156 (kk := ?_)
                    refine gx_iload_n C 5 dd_Mo_relax_159 (kk := ?_)
                    refine mo_l50 C dd_Mo_relax_160 (by omega) (kk := ?_)
                    refine gx_topi _ hxa.2.1 ?_
                    refine gx_imul C dd_Mo_relax_161 (kk := ?_)
                    refine gx_topi _ (pk_mul _ _) ?_
                    refine gx_bipush (v := nI 9) C dd_Mo_relax_162 (kk := ?_)
                    refine gx_aload_n C 7 dd_Mo_relax_164 (kk := ?_)
                    refine mo_get C fd_Mo_32 dd_Mo_relax_165 (kk := ?_)
                    refine gx_iload_n C 5 dd_Mo_relax_168 (kk := ?_)
                    refine mo_l51 C dd_Mo_relax_169 (by omega) (kk := ?_)
                    refine gx_topi _ hxa.2.2.1 ?_
                    refine gx_if_ne C 178 dd_Mo_relax_170 (fun h170 => ?_) (fun h170 => absurd h170 (nI_ne0 (by omega) (by omega)))
                    refine gx_iload C 4 dd_Mo_relax_178 (kk := ?_)
                    refine gx_iconst (v := nI 1) C dd_Mo_relax_180 (kk := ?_)
                    refine gx_iadd C dd_Mo_relax_181 (kk := ?_)
                    refine gx_topi _ (nI_add _ _) ?_
                    refine gx_imul C dd_Mo_relax_182 (kk := ?_)
                    refine gx_topi _ (pk_mul _ _) ?_
                    refine gx_iadd C dd_Mo_relax_183 (kk := ?_)
                    refine gx_topi _ (nI_add _ _) ?_
                    refine gx_aload_n C 7 dd_Mo_relax_184 (kk := ?_)
                    refine mo_get C fd_Mo_35 dd_Mo_relax_185 (kk := ?_)
                    refine gx_iload_n C 5 dd_Mo_relax_188 (kk := ?_)
                    refine mo_l52 C dd_Mo_relax_189 (by omega) (kk := ?_)
                    refine gx_topi _ hxa.2.2.2.1 ?_
                    refine gx_if_ne C 198 dd_Mo_relax_190 (fun h190 => ?_) (fun h190 => absurd h190 (nI_ne0 (by omega) (by omega)))
                    refine gx_iload C 3 dd_Mo_relax_198 (kk := ?_)
                    refine gx_iconst (v := nI 1) C dd_Mo_relax_200 (kk := ?_)
                    refine gx_iadd C dd_Mo_relax_201 (kk := ?_)
                    refine gx_topi _ (nI_add _ _) ?_
                    refine gx_iadd C dd_Mo_relax_202 (kk := ?_)
                    refine gx_topi _ (nI_add _ _) ?_
                    refine gx_istore C _ dd_Mo_relax_203 (kk := ?_)
                    rcases hvf : v1 ((i * 9 + j) * 16 + x.1 / 1024) with _ | d
                    · refine gx_lload C 3 dd_Mo_relax_205 (kk := ?_)
                      refine gx_ldc2 C dd_Mo_relax_207 kc_Mo_129 (kk := ?_)
                      refine gx_lcmp C dd_Mo_relax_210 (kk := ?_)
                      refine gx_if_ge C 262 dd_Mo_relax_211 (fun h211 => ?_) (fun h211 => absurd (by decide) h211)
                      refine gx_iinc C 4 (nI (j + 1)) _ dd_Mo_relax_262 (nI_1 _) (kk := ?_)
                      refine gx_goto C 37 dd_Mo_relax_265 (kk := ?_)
                      refine gx_loc [0, 5, 6, 7, 8, 9] ?_
                      have hxf : we_xf A0 B0 i j x = none := by
                        unfold we_xf
                        rw [pd]
                      exact ihj (j + 1) c v1 L1 (by omega) (by rw [wJ_n hxf]; exact hv1) hmt (sp_b_mono hB1 (by omega)) hc01 hc0 hLk
                    · have hdb := hB1 _ _ hvf
                      refine gx_lload C 3 dd_Mo_relax_205 (kk := ?_)
                      refine gx_ldc2 C dd_Mo_relax_207 kc_Mo_129 (kk := ?_)
                      refine gx_lcmp C dd_Mo_relax_210 (kk := ?_)
                      refine gx_if_ge C 262 dd_Mo_relax_211 (fun h211 => absurd (lc_ge.mp h211) (mf_fl (by omega))) (fun h211 => ?_)
                      refine gx_iload C 2 dd_Mo_relax_214 (kk := ?_)
                      refine gx_if_eq C 262 dd_Mo_relax_216 (fun h216 => ?_) (fun h216 => absurd rfl h216)
                      refine gx_iinc C 4 (nI (j + 1)) _ dd_Mo_relax_262 (nI_1 _) (kk := ?_)
                      refine gx_goto C 37 dd_Mo_relax_265 (kk := ?_)
                      refine gx_loc [0, 5, 6, 7, 8, 9] ?_
                      have hxf : we_xf A0 B0 i j x = none := by
                        unfold we_xf
                        rw [pd]
                      exact ihj (j + 1) c v1 L1 (by omega) (by rw [wJ_n hxf]; exact hv1) hmt (sp_b_mono hB1 (by omega)) hc01 hc0 hLk
              · have pd : ro_dn A0 i (x.1 / 128 % 8) = none := ro_dn_n p1 (by rw [List.getElem?_eq_none p2]; simp)
                refine gx_aload_n C 5 dd_Mo_relax_71 (kk := ?_)
                refine mo_get C fd_Mo_32 dd_Mo_relax_72 (kk := ?_)
                refine gx_iload_n C 3 dd_Mo_relax_75 (kk := ?_)
                refine mo_l51 C dd_Mo_relax_76 (by omega) (kk := ?_)
                refine gx_topi _ hxa.2.2.1 ?_
                refine gx_if_eq C 105 dd_Mo_relax_77 (fun h77 => absurd h77 (nI_ne0 (by omega) (by omega))) (fun h77 => ?_)
                refine gx_iload C 2 dd_Mo_relax_80 (kk := ?_)
                refine gx_aload_n C 5 dd_Mo_relax_82 (kk := ?_)
                refine mo_get C fd_Mo_162 dd_Mo_relax_83 (kk := ?_)
                refine gx_topi _ hS23 ?_
                refine gx_icmp_ge C 109 dd_Mo_relax_86 (fun h86 => ?_) (fun h86 => absurd (nI_le (by omega) (by omega)) h86)
                refine gx_iconst (v := nI 0) C dd_Mo_relax_109 (kk := ?_)
                refine gx_istore C _ dd_Mo_relax_110 (kk := ?_)
                rcases (show x.1 / 16 % 8 = 0 ∨ (¬ x.1 / 16 % 8 = 0 ∧ j < B0.length) ∨ (¬ x.1 / 16 % 8 = 0 ∧ B0.length ≤ j) by omega) with r1 | ⟨r1, r2⟩ | ⟨r1, r2⟩
                · have rd : ro_dn B0 j (x.1 / 16 % 8) = some j := by
                    rw [r1]
                    exact ro_dn_0
                  refine gx_aload_n C 6 dd_Mo_relax_112 (kk := ?_)
                  refine mo_get C fd_Mo_35 dd_Mo_relax_113 (kk := ?_)
                  refine gx_iload_n C 4 dd_Mo_relax_116 (kk := ?_)
                  refine mo_l52 C dd_Mo_relax_117 (by omega) (kk := ?_)
                  refine gx_topi _ hxa.2.2.2.1 ?_
                  refine gx_if_eq C 146 dd_Mo_relax_118 (fun h118 => ?_) (fun h118 => absurd (show nI (x.1 / 16 % 8) = 0 by rw [r1]; rfl) h118)
                  refine gx_iconst (v := nI 1) C dd_Mo_relax_146 (kk := ?_)
                  refine gx_goto C 151 dd_Mo_relax_147 (kk := ?_)
                  refine gx_istore C _ dd_Mo_relax_151 (kk := ?_)
                  refine gx_bipush (v := nI 81) C dd_Mo_relax_153 (kk := ?_)
                  refine gx_aload_n C 7 dd_Mo_relax_155 (kk := ?_)
                  refine mo_get C fd_Mo_29 dd_Mo_relax_156 (kk := ?_)
                  refine gx_iload_n C 5 dd_Mo_relax_159 (kk := ?_)
                  refine mo_l50 C dd_Mo_relax_160 (by omega) (kk := ?_)
                  refine gx_topi _ hxa.2.1 ?_
                  refine gx_imul C dd_Mo_relax_161 (kk := ?_)
                  refine gx_topi _ (pk_mul _ _) ?_
                  refine gx_bipush (v := nI 9) C dd_Mo_relax_162 (kk := ?_)
                  refine gx_aload_n C 7 dd_Mo_relax_164 (kk := ?_)
                  refine mo_get C fd_Mo_32 dd_Mo_relax_165 (kk := ?_)
                  refine gx_iload_n C 5 dd_Mo_relax_168 (kk := ?_)
                  refine mo_l51 C dd_Mo_relax_169 (by omega) (kk := ?_)
                  refine gx_topi _ hxa.2.2.1 ?_
                  refine gx_if_ne C 178 dd_Mo_relax_170 (fun h170 => ?_) (fun h170 => absurd h170 (nI_ne0 (by omega) (by omega)))
                  refine gx_iload C 4 dd_Mo_relax_178 (kk := ?_)
                  refine gx_iconst (v := nI 1) C dd_Mo_relax_180 (kk := ?_)
                  refine gx_iadd C dd_Mo_relax_181 (kk := ?_)
                  refine gx_topi _ (nI_add _ _) ?_
                  refine gx_imul C dd_Mo_relax_182 (kk := ?_)
                  refine gx_topi _ (pk_mul _ _) ?_
                  refine gx_iadd C dd_Mo_relax_183 (kk := ?_)
                  refine gx_topi _ (nI_add _ _) ?_
                  refine gx_aload_n C 7 dd_Mo_relax_184 (kk := ?_)
                  refine mo_get C fd_Mo_35 dd_Mo_relax_185 (kk := ?_)
                  refine gx_iload_n C 5 dd_Mo_relax_188 (kk := ?_)
                  refine mo_l52 C dd_Mo_relax_189 (by omega) (kk := ?_)
                  refine gx_topi _ hxa.2.2.2.1 ?_
                  refine gx_if_ne C 198 dd_Mo_relax_190 (fun h190 => absurd (show nI (x.1 / 16 % 8) = 0 by rw [r1]; rfl) h190) (fun h190 => ?_)
                  refine gx_iload C 3 dd_Mo_relax_193 (kk := ?_)
                  refine gx_goto C 202 dd_Mo_relax_195 (kk := ?_)
                  refine gx_iadd C dd_Mo_relax_202 (kk := ?_)
                  refine gx_topi _ (nI_add _ _) ?_
                  refine gx_istore C _ dd_Mo_relax_203 (kk := ?_)
                  rcases hvf : v1 ((i * 9 + j) * 16 + x.1 / 1024) with _ | d
                  · refine gx_lload C 3 dd_Mo_relax_205 (kk := ?_)
                    refine gx_ldc2 C dd_Mo_relax_207 kc_Mo_129 (kk := ?_)
                    refine gx_lcmp C dd_Mo_relax_210 (kk := ?_)
                    refine gx_if_ge C 262 dd_Mo_relax_211 (fun h211 => ?_) (fun h211 => absurd (by decide) h211)
                    refine gx_iinc C 4 (nI (j + 1)) _ dd_Mo_relax_262 (nI_1 _) (kk := ?_)
                    refine gx_goto C 37 dd_Mo_relax_265 (kk := ?_)
                    refine gx_loc [0, 5, 6, 7, 8, 9] ?_
                    have hxf : we_xf A0 B0 i j x = none := by
                      unfold we_xf
                      rw [pd]
                    exact ihj (j + 1) c v1 L1 (by omega) (by rw [wJ_n hxf]; exact hv1) hmt (sp_b_mono hB1 (by omega)) hc01 hc0 hLk
                  · have hdb := hB1 _ _ hvf
                    refine gx_lload C 3 dd_Mo_relax_205 (kk := ?_)
                    refine gx_ldc2 C dd_Mo_relax_207 kc_Mo_129 (kk := ?_)
                    refine gx_lcmp C dd_Mo_relax_210 (kk := ?_)
                    refine gx_if_ge C 262 dd_Mo_relax_211 (fun h211 => absurd (lc_ge.mp h211) (mf_fl (by omega))) (fun h211 => ?_)
                    refine gx_iload C 2 dd_Mo_relax_214 (kk := ?_)
                    refine gx_if_eq C 262 dd_Mo_relax_216 (fun h216 => ?_) (fun h216 => absurd rfl h216)
                    refine gx_iinc C 4 (nI (j + 1)) _ dd_Mo_relax_262 (nI_1 _) (kk := ?_)
                    refine gx_goto C 37 dd_Mo_relax_265 (kk := ?_)
                    refine gx_loc [0, 5, 6, 7, 8, 9] ?_
                    have hxf : we_xf A0 B0 i j x = none := by
                      unfold we_xf
                      rw [pd]
                    exact ihj (j + 1) c v1 L1 (by omega) (by rw [wJ_n hxf]; exact hv1) hmt (sp_b_mono hB1 (by omega)) hc01 hc0 hLk
                · obtain ⟨rl, rg⟩ : ∃ d, B0[j]? = some d := ⟨_, List.getElem?_eq_getElem r2⟩
                  have rb := hr62.2.2 rl (List.mem_of_getElem? rg)
                  refine gx_aload_n C 6 dd_Mo_relax_112 (kk := ?_)
                  refine mo_get C fd_Mo_35 dd_Mo_relax_113 (kk := ?_)
                  refine gx_iload_n C 4 dd_Mo_relax_116 (kk := ?_)
                  refine mo_l52 C dd_Mo_relax_117 (by omega) (kk := ?_)
                  refine gx_topi _ hxa.2.2.2.1 ?_
                  refine gx_if_eq C 146 dd_Mo_relax_118 (fun h118 => absurd h118 (nI_ne0 (by omega) (by omega))) (fun h118 => ?_)
                  refine gx_iload C 2 dd_Mo_relax_121 (kk := ?_)
                  refine gx_aload_n C 6 dd_Mo_relax_123 (kk := ?_)
                  refine mo_get C fd_Mo_165 dd_Mo_relax_124 (kk := ?_)
                  refine gx_topi _ hS24 ?_
                  refine gx_icmp_ge C 150 dd_Mo_relax_127 (fun h127 => absurd h127 (nI_ge (by omega) (by omega))) (fun h127 => ?_)
                  by_cases re : rl = x.1 / 16 % 8
                  · have rd : ro_dn B0 j (x.1 / 16 % 8) = some (j + 1) := ro_dn_y r1 (by rw [rg, re])
                    refine gx_aload_n C 6 dd_Mo_relax_130 (kk := ?_)
                    refine mo_get C fd_Mo_66 dd_Mo_relax_131 (kk := ?_)
                    refine gx_iload C 2 dd_Mo_relax_134 (kk := ?_)
                    refine mo_l62 C dd_Mo_relax_136 (by omega) (kk := ?_)
                    refine gx_topi _ (hr62.1 j rl rg) ?_
                    refine gx_aload_n C 6 dd_Mo_relax_137 (kk := ?_)
                    refine mo_get C fd_Mo_35 dd_Mo_relax_138 (kk := ?_)
                    refine gx_iload_n C 4 dd_Mo_relax_141 (kk := ?_)
                    refine mo_l52 C dd_Mo_relax_142 (by omega) (kk := ?_)
                    refine gx_topi _ hxa.2.2.2.1 ?_
                    refine gx_icmp_ne C 150 dd_Mo_relax_143 (fun h143 => absurd (congrArg nI re) h143) (fun h143 => ?_)
                    refine gx_iconst (v := nI 1) C dd_Mo_relax_146 (kk := ?_)
                    refine gx_goto C 151 dd_Mo_relax_147 (kk := ?_)
                    refine gx_istore C _ dd_Mo_relax_151 (kk := ?_)
                    refine gx_bipush (v := nI 81) C dd_Mo_relax_153 (kk := ?_)
                    refine gx_aload_n C 7 dd_Mo_relax_155 (kk := ?_)
                    refine mo_get C fd_Mo_29 dd_Mo_relax_156 (kk := ?_)
                    refine gx_iload_n C 5 dd_Mo_relax_159 (kk := ?_)
                    refine mo_l50 C dd_Mo_relax_160 (by omega) (kk := ?_)
                    refine gx_topi _ hxa.2.1 ?_
                    refine gx_imul C dd_Mo_relax_161 (kk := ?_)
                    refine gx_topi _ (pk_mul _ _) ?_
                    refine gx_bipush (v := nI 9) C dd_Mo_relax_162 (kk := ?_)
                    refine gx_aload_n C 7 dd_Mo_relax_164 (kk := ?_)
                    refine mo_get C fd_Mo_32 dd_Mo_relax_165 (kk := ?_)
                    refine gx_iload_n C 5 dd_Mo_relax_168 (kk := ?_)
                    refine mo_l51 C dd_Mo_relax_169 (by omega) (kk := ?_)
                    refine gx_topi _ hxa.2.2.1 ?_
                    refine gx_if_ne C 178 dd_Mo_relax_170 (fun h170 => ?_) (fun h170 => absurd h170 (nI_ne0 (by omega) (by omega)))
                    refine gx_iload C 4 dd_Mo_relax_178 (kk := ?_)
                    refine gx_iconst (v := nI 1) C dd_Mo_relax_180 (kk := ?_)
                    refine gx_iadd C dd_Mo_relax_181 (kk := ?_)
                    refine gx_topi _ (nI_add _ _) ?_
                    refine gx_imul C dd_Mo_relax_182 (kk := ?_)
                    refine gx_topi _ (pk_mul _ _) ?_
                    refine gx_iadd C dd_Mo_relax_183 (kk := ?_)
                    refine gx_topi _ (nI_add _ _) ?_
                    refine gx_aload_n C 7 dd_Mo_relax_184 (kk := ?_)
                    refine mo_get C fd_Mo_35 dd_Mo_relax_185 (kk := ?_)
                    refine gx_iload_n C 5 dd_Mo_relax_188 (kk := ?_)
                    refine mo_l52 C dd_Mo_relax_189 (by omega) (kk := ?_)
                    refine gx_topi _ hxa.2.2.2.1 ?_
                    refine gx_if_ne C 198 dd_Mo_relax_190 (fun h190 => ?_) (fun h190 => absurd h190 (nI_ne0 (by omega) (by omega)))
                    refine gx_iload C 3 dd_Mo_relax_198 (kk := ?_)
                    refine gx_iconst (v := nI 1) C dd_Mo_relax_200 (kk := ?_)
                    refine gx_iadd C dd_Mo_relax_201 (kk := ?_)
                    refine gx_topi _ (nI_add _ _) ?_
                    refine gx_iadd C dd_Mo_relax_202 (kk := ?_)
                    refine gx_topi _ (nI_add _ _) ?_
                    refine gx_istore C _ dd_Mo_relax_203 (kk := ?_)
                    rcases hvf : v1 ((i * 9 + j) * 16 + x.1 / 1024) with _ | d
                    · refine gx_lload C 3 dd_Mo_relax_205 (kk := ?_)
                      refine gx_ldc2 C dd_Mo_relax_207 kc_Mo_129 (kk := ?_)
                      refine gx_lcmp C dd_Mo_relax_210 (kk := ?_)
                      refine gx_if_ge C 262 dd_Mo_relax_211 (fun h211 => ?_) (fun h211 => absurd (by decide) h211)
                      refine gx_iinc C 4 (nI (j + 1)) _ dd_Mo_relax_262 (nI_1 _) (kk := ?_)
                      refine gx_goto C 37 dd_Mo_relax_265 (kk := ?_)
                      refine gx_loc [0, 5, 6, 7, 8, 9] ?_
                      have hxf : we_xf A0 B0 i j x = none := by
                        unfold we_xf
                        rw [pd]
                      exact ihj (j + 1) c v1 L1 (by omega) (by rw [wJ_n hxf]; exact hv1) hmt (sp_b_mono hB1 (by omega)) hc01 hc0 hLk
                    · have hdb := hB1 _ _ hvf
                      refine gx_lload C 3 dd_Mo_relax_205 (kk := ?_)
                      refine gx_ldc2 C dd_Mo_relax_207 kc_Mo_129 (kk := ?_)
                      refine gx_lcmp C dd_Mo_relax_210 (kk := ?_)
                      refine gx_if_ge C 262 dd_Mo_relax_211 (fun h211 => absurd (lc_ge.mp h211) (mf_fl (by omega))) (fun h211 => ?_)
                      refine gx_iload C 2 dd_Mo_relax_214 (kk := ?_)
                      refine gx_if_eq C 262 dd_Mo_relax_216 (fun h216 => ?_) (fun h216 => absurd rfl h216)
                      refine gx_iinc C 4 (nI (j + 1)) _ dd_Mo_relax_262 (nI_1 _) (kk := ?_)
                      refine gx_goto C 37 dd_Mo_relax_265 (kk := ?_)
                      refine gx_loc [0, 5, 6, 7, 8, 9] ?_
                      have hxf : we_xf A0 B0 i j x = none := by
                        unfold we_xf
                        rw [pd]
                      exact ihj (j + 1) c v1 L1 (by omega) (by rw [wJ_n hxf]; exact hv1) hmt (sp_b_mono hB1 (by omega)) hc01 hc0 hLk
                  · have rd : ro_dn B0 j (x.1 / 16 % 8) = none := ro_dn_n r1 (fun cc => re (Option.some.inj (rg.symm.trans cc)))
                    refine gx_aload_n C 6 dd_Mo_relax_130 (kk := ?_)
                    refine mo_get C fd_Mo_66 dd_Mo_relax_131 (kk := ?_)
                    refine gx_iload C 2 dd_Mo_relax_134 (kk := ?_)
                    refine mo_l62 C dd_Mo_relax_136 (by omega) (kk := ?_)
                    refine gx_topi _ (hr62.1 j rl rg) ?_
                    refine gx_aload_n C 6 dd_Mo_relax_137 (kk := ?_)
                    refine mo_get C fd_Mo_35 dd_Mo_relax_138 (kk := ?_)
                    refine gx_iload_n C 4 dd_Mo_relax_141 (kk := ?_)
                    refine mo_l52 C dd_Mo_relax_142 (by omega) (kk := ?_)
                    refine gx_topi _ hxa.2.2.2.1 ?_
                    refine gx_icmp_ne C 150 dd_Mo_relax_143 (fun h143 => ?_) (fun h143 => absurd ((nI_eq (by omega) (by omega)).mp h143) re)
                    refine gx_iconst (v := nI 0) C dd_Mo_relax_150 (kk := ?_)
                    refine gx_istore C _ dd_Mo_relax_151 (kk := ?_)
                    refine gx_bipush (v := nI 81) C dd_Mo_relax_153 (kk := ?_)
                    refine gx_aload_n C 7 dd_Mo_relax_155 (kk := ?_)
                    refine mo_get C fd_Mo_29 dd_Mo_relax_156 (kk := ?_)
                    refine gx_iload_n C 5 dd_Mo_relax_159 (kk := ?_)
                    refine mo_l50 C dd_Mo_relax_160 (by omega) (kk := ?_)
                    refine gx_topi _ hxa.2.1 ?_
                    refine gx_imul C dd_Mo_relax_161 (kk := ?_)
                    refine gx_topi _ (pk_mul _ _) ?_
                    refine gx_bipush (v := nI 9) C dd_Mo_relax_162 (kk := ?_)
                    refine gx_aload_n C 7 dd_Mo_relax_164 (kk := ?_)
                    refine mo_get C fd_Mo_32 dd_Mo_relax_165 (kk := ?_)
                    refine gx_iload_n C 5 dd_Mo_relax_168 (kk := ?_)
                    refine mo_l51 C dd_Mo_relax_169 (by omega) (kk := ?_)
                    refine gx_topi _ hxa.2.2.1 ?_
                    refine gx_if_ne C 178 dd_Mo_relax_170 (fun h170 => ?_) (fun h170 => absurd h170 (nI_ne0 (by omega) (by omega)))
                    refine gx_iload C 4 dd_Mo_relax_178 (kk := ?_)
                    refine gx_iconst (v := nI 1) C dd_Mo_relax_180 (kk := ?_)
                    refine gx_iadd C dd_Mo_relax_181 (kk := ?_)
                    refine gx_topi _ (nI_add _ _) ?_
                    refine gx_imul C dd_Mo_relax_182 (kk := ?_)
                    refine gx_topi _ (pk_mul _ _) ?_
                    refine gx_iadd C dd_Mo_relax_183 (kk := ?_)
                    refine gx_topi _ (nI_add _ _) ?_
                    refine gx_aload_n C 7 dd_Mo_relax_184 (kk := ?_)
                    refine mo_get C fd_Mo_35 dd_Mo_relax_185 (kk := ?_)
                    refine gx_iload_n C 5 dd_Mo_relax_188 (kk := ?_)
                    refine mo_l52 C dd_Mo_relax_189 (by omega) (kk := ?_)
                    refine gx_topi _ hxa.2.2.2.1 ?_
                    refine gx_if_ne C 198 dd_Mo_relax_190 (fun h190 => ?_) (fun h190 => absurd h190 (nI_ne0 (by omega) (by omega)))
                    refine gx_iload C 3 dd_Mo_relax_198 (kk := ?_)
                    refine gx_iconst (v := nI 1) C dd_Mo_relax_200 (kk := ?_)
                    refine gx_iadd C dd_Mo_relax_201 (kk := ?_)
                    refine gx_topi _ (nI_add _ _) ?_
                    refine gx_iadd C dd_Mo_relax_202 (kk := ?_)
                    refine gx_topi _ (nI_add _ _) ?_
                    refine gx_istore C _ dd_Mo_relax_203 (kk := ?_)
                    rcases hvf : v1 ((i * 9 + j) * 16 + x.1 / 1024) with _ | d
                    · refine gx_lload C 3 dd_Mo_relax_205 (kk := ?_)
                      refine gx_ldc2 C dd_Mo_relax_207 kc_Mo_129 (kk := ?_)
                      refine gx_lcmp C dd_Mo_relax_210 (kk := ?_)
                      refine gx_if_ge C 262 dd_Mo_relax_211 (fun h211 => ?_) (fun h211 => absurd (by decide) h211)
                      refine gx_iinc C 4 (nI (j + 1)) _ dd_Mo_relax_262 (nI_1 _) (kk := ?_)
                      refine gx_goto C 37 dd_Mo_relax_265 (kk := ?_)
                      refine gx_loc [0, 5, 6, 7, 8, 9] ?_
                      have hxf : we_xf A0 B0 i j x = none := by
                        unfold we_xf
                        rw [pd]
                      exact ihj (j + 1) c v1 L1 (by omega) (by rw [wJ_n hxf]; exact hv1) hmt (sp_b_mono hB1 (by omega)) hc01 hc0 hLk
                    · have hdb := hB1 _ _ hvf
                      refine gx_lload C 3 dd_Mo_relax_205 (kk := ?_)
                      refine gx_ldc2 C dd_Mo_relax_207 kc_Mo_129 (kk := ?_)
                      refine gx_lcmp C dd_Mo_relax_210 (kk := ?_)
                      refine gx_if_ge C 262 dd_Mo_relax_211 (fun h211 => absurd (lc_ge.mp h211) (mf_fl (by omega))) (fun h211 => ?_)
                      refine gx_iload C 2 dd_Mo_relax_214 (kk := ?_)
                      refine gx_if_eq C 262 dd_Mo_relax_216 (fun h216 => ?_) (fun h216 => absurd rfl h216)
                      refine gx_iinc C 4 (nI (j + 1)) _ dd_Mo_relax_262 (nI_1 _) (kk := ?_)
                      refine gx_goto C 37 dd_Mo_relax_265 (kk := ?_)
                      refine gx_loc [0, 5, 6, 7, 8, 9] ?_
                      have hxf : we_xf A0 B0 i j x = none := by
                        unfold we_xf
                        rw [pd]
                      exact ihj (j + 1) c v1 L1 (by omega) (by rw [wJ_n hxf]; exact hv1) hmt (sp_b_mono hB1 (by omega)) hc01 hc0 hLk
                · have rd : ro_dn B0 j (x.1 / 16 % 8) = none := ro_dn_n r1 (by rw [List.getElem?_eq_none r2]; simp)
                  refine gx_aload_n C 6 dd_Mo_relax_112 (kk := ?_)
                  refine mo_get C fd_Mo_35 dd_Mo_relax_113 (kk := ?_)
                  refine gx_iload_n C 4 dd_Mo_relax_116 (kk := ?_)
                  refine mo_l52 C dd_Mo_relax_117 (by omega) (kk := ?_)
                  refine gx_topi _ hxa.2.2.2.1 ?_
                  refine gx_if_eq C 146 dd_Mo_relax_118 (fun h118 => absurd h118 (nI_ne0 (by omega) (by omega))) (fun h118 => ?_)
                  refine gx_iload C 2 dd_Mo_relax_121 (kk := ?_)
                  refine gx_aload_n C 6 dd_Mo_relax_123 (kk := ?_)
                  refine mo_get C fd_Mo_165 dd_Mo_relax_124 (kk := ?_)
                  refine gx_topi _ hS24 ?_
                  refine gx_icmp_ge C 150 dd_Mo_relax_127 (fun h127 => ?_) (fun h127 => absurd (nI_le (by omega) (by omega)) h127)
                  refine gx_iconst (v := nI 0) C dd_Mo_relax_150 (kk := ?_)
                  refine gx_istore C _ dd_Mo_relax_151 (kk := ?_)
                  refine gx_bipush (v := nI 81) C dd_Mo_relax_153 (kk := ?_)
                  refine gx_aload_n C 7 dd_Mo_relax_155 (kk := ?_)
                  refine mo_get C fd_Mo_29 dd_Mo_relax_156 (kk := ?_)
                  refine gx_iload_n C 5 dd_Mo_relax_159 (kk := ?_)
                  refine mo_l50 C dd_Mo_relax_160 (by omega) (kk := ?_)
                  refine gx_topi _ hxa.2.1 ?_
                  refine gx_imul C dd_Mo_relax_161 (kk := ?_)
                  refine gx_topi _ (pk_mul _ _) ?_
                  refine gx_bipush (v := nI 9) C dd_Mo_relax_162 (kk := ?_)
                  refine gx_aload_n C 7 dd_Mo_relax_164 (kk := ?_)
                  refine mo_get C fd_Mo_32 dd_Mo_relax_165 (kk := ?_)
                  refine gx_iload_n C 5 dd_Mo_relax_168 (kk := ?_)
                  refine mo_l51 C dd_Mo_relax_169 (by omega) (kk := ?_)
                  refine gx_topi _ hxa.2.2.1 ?_
                  refine gx_if_ne C 178 dd_Mo_relax_170 (fun h170 => ?_) (fun h170 => absurd h170 (nI_ne0 (by omega) (by omega)))
                  refine gx_iload C 4 dd_Mo_relax_178 (kk := ?_)
                  refine gx_iconst (v := nI 1) C dd_Mo_relax_180 (kk := ?_)
                  refine gx_iadd C dd_Mo_relax_181 (kk := ?_)
                  refine gx_topi _ (nI_add _ _) ?_
                  refine gx_imul C dd_Mo_relax_182 (kk := ?_)
                  refine gx_topi _ (pk_mul _ _) ?_
                  refine gx_iadd C dd_Mo_relax_183 (kk := ?_)
                  refine gx_topi _ (nI_add _ _) ?_
                  refine gx_aload_n C 7 dd_Mo_relax_184 (kk := ?_)
                  refine mo_get C fd_Mo_35 dd_Mo_relax_185 (kk := ?_)
                  refine gx_iload_n C 5 dd_Mo_relax_188 (kk := ?_)
                  refine mo_l52 C dd_Mo_relax_189 (by omega) (kk := ?_)
                  refine gx_topi _ hxa.2.2.2.1 ?_
                  refine gx_if_ne C 198 dd_Mo_relax_190 (fun h190 => ?_) (fun h190 => absurd h190 (nI_ne0 (by omega) (by omega)))
                  refine gx_iload C 3 dd_Mo_relax_198 (kk := ?_)
                  refine gx_iconst (v := nI 1) C dd_Mo_relax_200 (kk := ?_)
                  refine gx_iadd C dd_Mo_relax_201 (kk := ?_)
                  refine gx_topi _ (nI_add _ _) ?_
                  refine gx_iadd C dd_Mo_relax_202 (kk := ?_)
                  refine gx_topi _ (nI_add _ _) ?_
                  refine gx_istore C _ dd_Mo_relax_203 (kk := ?_)
                  rcases hvf : v1 ((i * 9 + j) * 16 + x.1 / 1024) with _ | d
                  · refine gx_lload C 3 dd_Mo_relax_205 (kk := ?_)
                    refine gx_ldc2 C dd_Mo_relax_207 kc_Mo_129 (kk := ?_)
                    refine gx_lcmp C dd_Mo_relax_210 (kk := ?_)
                    refine gx_if_ge C 262 dd_Mo_relax_211 (fun h211 => ?_) (fun h211 => absurd (by decide) h211)
                    refine gx_iinc C 4 (nI (j + 1)) _ dd_Mo_relax_262 (nI_1 _) (kk := ?_)
                    refine gx_goto C 37 dd_Mo_relax_265 (kk := ?_)
                    refine gx_loc [0, 5, 6, 7, 8, 9] ?_
                    have hxf : we_xf A0 B0 i j x = none := by
                      unfold we_xf
                      rw [pd]
                    exact ihj (j + 1) c v1 L1 (by omega) (by rw [wJ_n hxf]; exact hv1) hmt (sp_b_mono hB1 (by omega)) hc01 hc0 hLk
                  · have hdb := hB1 _ _ hvf
                    refine gx_lload C 3 dd_Mo_relax_205 (kk := ?_)
                    refine gx_ldc2 C dd_Mo_relax_207 kc_Mo_129 (kk := ?_)
                    refine gx_lcmp C dd_Mo_relax_210 (kk := ?_)
                    refine gx_if_ge C 262 dd_Mo_relax_211 (fun h211 => absurd (lc_ge.mp h211) (mf_fl (by omega))) (fun h211 => ?_)
                    refine gx_iload C 2 dd_Mo_relax_214 (kk := ?_)
                    refine gx_if_eq C 262 dd_Mo_relax_216 (fun h216 => ?_) (fun h216 => absurd rfl h216)
                    refine gx_iinc C 4 (nI (j + 1)) _ dd_Mo_relax_262 (nI_1 _) (kk := ?_)
                    refine gx_goto C 37 dd_Mo_relax_265 (kk := ?_)
                    refine gx_loc [0, 5, 6, 7, 8, 9] ?_
                    have hxf : we_xf A0 B0 i j x = none := by
                      unfold we_xf
                      rw [pd]
                    exact ihj (j + 1) c v1 L1 (by omega) (by rw [wJ_n hxf]; exact hv1) hmt (sp_b_mono hB1 (by omega)) hc01 hc0 hLk
          exact loopJ (B0.length + 1) 0 c vi L1 (by omega) rfl hmt (sp_b_mono hB1 (by omega)) hc01 hc0 hLk
      exact loopI (A0.length + 1) 0 c vk L1 (by omega) rfl hmt (sp_b_mono hB1 (by omega)) hc01 hc0 hLk
  refine gx_iconst (v := nI 0) C dd_Mo_relax_0 (kk := ?_)
  refine gx_istore_n C _ dd_Mo_relax_1 (kk := ?_)
  refine gx_bipush (v := nI 65) C dd_Mo_relax_2 (kk := ?_)
  refine gx_iload_n C 2 dd_Mo_relax_4 (kk := ?_)
  refine gx_imul C dd_Mo_relax_5 (kk := ?_)
  refine gx_topi _ (pk_mul _ _) ?_
  refine gx_istore_n C _ dd_Mo_relax_6 (kk := ?_)
  exact loopK (am_ar A).length 0 0 v0 L (by omega) rfl hmt (sp_b_mono hB (by omega)) (Or.inl rfl) (fun _ => rfl) (fun _ _ => rfl)
theorem wK_fix {A B : List Nat} {l : List (Nat × Nat)} {v X : ls_V} : ls_fix (wK A B l) v X ↔ ls_fix (we_E A B l) v X := by
  have hc : ∀ Y, ls_cl (wK A B l) Y ↔ ls_cl (we_E A B l) Y := fun Y => ⟨fun h e he => h e (wK_mem.mpr he), fun h e he => h e (wK_mem.mp he)⟩
  unfold ls_fix
  rw [hc X]
  exact ⟨fun h => ⟨h.1, h.2.1, fun Y h1 h2 => h.2.2 Y h1 ((hc Y).mpr h2)⟩, fun h => ⟨h.1, h.2.1, fun Y h1 h2 => h.2.2 Y h1 ((hc Y).mp h2)⟩⟩
theorem wK_V {A B : List Nat} {l : List (Nat × Nat)} {s w : Nat} {X : ls_V} (hA : A.length ≤ 8) (hB : B.length ≤ 8) (hl : ∀ x ∈ l, x.1 < 16384) (h : ls_fix (wK A B l) (we_v0 s w) X) : X = we_V A B l s w := ls_one (wK_fix.mp h) (ls_it_fix (we_E_lt hA hB hl) (by decide))
theorem wK_it {A B : List Nat} {l : List (Nat × Nat)} {v : ls_V} (hA : A.length ≤ 8) (hB : B.length ≤ 8) (hl : ∀ x ∈ l, x.1 < 16384) : ls_fix (we_E A B l) v (ls_it (wK A B l) 1300 v) := wK_fix.mp (ls_it_fix (N := 1296) (fun e he => we_E_lt hA hB hl e (wK_mem.mp he)) (by decide))
theorem mr_dig {X n : Nat} {M : List Nat} (h : ro_dg n X = some M) {j d : Nat} (hd : M.reverse[j]? = some d) : d = X / 10 ^ (M.length - 1 - j) % 10 ∧ d < 8 ∧ j < M.length := by
  have hj : j < M.length := by
    have := (List.getElem?_eq_some_iff.mp hd).1
    rwa [List.length_reverse] at this
  rw [List.getElem?_reverse hj] at hd
  obtain ⟨h1, h2⟩ := ro_dg_at n X M h (M.length - 1 - j) (by omega)
  rw [h1] at hd
  cases hd
  exact ⟨rfl, h2, hj⟩
def mr_to (F : mo_F) (c t X n : Nat) (M : List Nat) : Prop := ∀ j, j < t → j < M.length → F c j = nI (X / 10 ^ (M.length - 1 - j) % 10)
theorem mr_fin {F : mo_F} {c X n : Nat} {M : List Nat} (h : ro_dg 8 X = some M) (hf : mr_to F c 8 X n M) : mrow F c M.reverse := by
  have hl := ro_dg_len 8 X M h
  refine ⟨fun j d hd => ?_, by rw [List.length_reverse]; exact hl, fun d hd => ?_⟩
  · obtain ⟨h1, -, h3⟩ := mr_dig h hd
    rw [hf j (by omega) h3, h1]
  · obtain ⟨j, hj⟩ := List.getElem?_of_mem hd
    exact (mr_dig h hj).2.1
set_option maxRecDepth 100000 in
set_option maxHeartbeats 4000000 in
theorem ct_Mo_weigh (l : Launch) (D : va_G) (dA : Nat → ClassId) (ad : Nat → Nat) (h : Nat → va_E) (F : mo_F) (L : mo_L) (S : Nat → Int32) {σ : sg} (hr : rs F L S σ) (hσ : sg_ok σ) (s x y : Int32) : gx_Ct l D dA yy_Mo_weigh cc_Mo_weigh 12 (some .long) 1 0 0 [.ref (ad 43), .int s, .int x, .int y] (gx_w ad (mo_h dA ad h F L S)) (fun v w => ∃ F2 L2 S2, w = (gx_w ad (mo_h dA ad h F2 L2 S2)) ∧ rs F2 L2 S2 (o_weigh σ s x y).2 ∧ v = some (.long (o_weigh σ s x y).1)) := by
  refine gx_of (by decide) (Nat.le_of_ble_eq_true rfl) (fun K C _ _ => ?_)
  have hM := hr.1
  have hP := hr.2.1
  have hX := hr.2.2
  refine gx_iload_n C 1 dd_Mo_weigh_0 (kk := ?_)
  refine gx_callS C (ct_Mo_isSlot (gx_l K) D dA _ s) me_Mo_isSlot ml_Mo_81 ms_Mo_isSlot dd_Mo_weigh_1 (kk := fun v w hq => ?_)
  obtain ⟨rfl, rfl⟩ := hq
  rcases hi : ix 4 s with _ | i
  · refine gx_if_eq C 30 dd_Mo_weigh_4 (fun h4 => ?_) (fun h4 => absurd rfl h4)
    refine gx_ldc2 C dd_Mo_weigh_30 kc_Mo_79 (kk := ?_)
    refine gx_lret C dd_Mo_weigh_33 ?_
    have hsp : o_weigh σ s x y = (-1, σ) := by
      unfold o_weigh
      simp only [hi]
    rw [hsp]
    exact ⟨F, L, S, rfl, hr, rfl⟩
  · obtain ⟨hi4, rfl⟩ := ix_of (by decide) hi
    refine gx_if_eq C 30 dd_Mo_weigh_4 (fun h4 => absurd (show true = false from fb_0.mp h4) (by decide)) (fun h4 => ?_)
    refine gx_iload_n C 2 dd_Mo_weigh_7 (kk := ?_)
    refine gx_callS C (ct_Mo_sizeOf (gx_l K) D dA _ x) me_Mo_sizeOf ml_Mo_168 ms_Mo_sizeOf dd_Mo_weigh_8 (kk := fun v w hq => ?_)
    obtain ⟨rfl, rfl⟩ := hq
    rcases hrx : ro_of x with _ | M
    · refine gx_if_lt C 30 dd_Mo_weigh_11 (fun h11 => ?_) (fun h11 => absurd (by decide) h11)
      refine gx_ldc2 C dd_Mo_weigh_30 kc_Mo_79 (kk := ?_)
      refine gx_lret C dd_Mo_weigh_33 ?_
      have hwn : we_an (σ.1 i) x y = none := by
        unfold we_an
        simp only [hrx]
      have hsp : o_weigh σ (nI i) x y = (-1, σ) := by
        unfold o_weigh
        simp only [hi, hwn]
        rfl
      rw [hsp]
      exact ⟨F, L, S, rfl, hr, rfl⟩
    · obtain ⟨X, hX, rfl⟩ : ∃ z, z < 2 ^ 31 ∧ x = nI z := by
        have hn : ¬ x < 0 := fun e => by
          unfold ro_of at hrx
          rw [if_pos e] at hrx
          cases hrx
        obtain ⟨z, hz, hz2⟩ := nI_of hn
        exact ⟨z, hz, hz2⟩
      have hdx := hrx
      rw [ro_of_p hX] at hdx
      have hl1 := ro_dg_len 8 X M hdx
      refine gx_if_lt C 30 dd_Mo_weigh_11 (fun h11 => absurd h11 (nI_pos (by omega))) (fun h11 => ?_)
      refine gx_iload_n C 3 dd_Mo_weigh_14 (kk := ?_)
      refine gx_callS C (ct_Mo_sizeOf (gx_l K) D dA _ y) me_Mo_sizeOf ml_Mo_168 ms_Mo_sizeOf dd_Mo_weigh_15 (kk := fun v w hq => ?_)
      obtain ⟨rfl, rfl⟩ := hq
      rcases hry : ro_of y with _ | M2
      · refine gx_if_lt C 30 dd_Mo_weigh_18 (fun h18 => ?_) (fun h18 => absurd (by decide) h18)
        refine gx_ldc2 C dd_Mo_weigh_30 kc_Mo_79 (kk := ?_)
        refine gx_lret C dd_Mo_weigh_33 ?_
        have hwn : we_an (σ.1 i) (nI X) y = none := by
          unfold we_an
          simp only [hrx, hry]
        have hsp : o_weigh σ (nI i) (nI X) y = (-1, σ) := by
          unfold o_weigh
          simp only [hi, hwn]
          rfl
        rw [hsp]
        exact ⟨F, L, S, rfl, hr, rfl⟩
      · obtain ⟨Y, hY, rfl⟩ : ∃ z, z < 2 ^ 31 ∧ y = nI z := by
          have hn : ¬ y < 0 := fun e => by
            unfold ro_of at hry
            rw [if_pos e] at hry
            cases hry
          obtain ⟨z, hz, hz2⟩ := nI_of hn
          exact ⟨z, hz, hz2⟩
        have hdy := hry
        rw [ro_of_p hY] at hdy
        have hl2 := ro_dg_len 8 Y M2 hdy
        refine gx_if_lt C 30 dd_Mo_weigh_18 (fun h18 => absurd h18 (nI_pos (by omega))) (fun h18 => ?_)
        have hok := hσ.1 i hi4
        have hn16 := hok.1.1
        have hl64 := hok.1.2.1
        have hsq0 := (hM i hi4).2.1
        rcases hst : am_st (σ.1 i) with _ | xa
        · rw [hst] at hsq0
          refine gx_aload_n C 0 dd_Mo_weigh_21 (kk := ?_)
          refine mo_get C fd_Mo_13 dd_Mo_weigh_22 (kk := ?_)
          refine gx_iload_n C 1 dd_Mo_weigh_25 (kk := ?_)
          refine mo_l45 C dd_Mo_weigh_26 (by omega) (kk := ?_)
          refine gx_topi _ hsq0.1 ?_
          refine gx_if_ge C 34 dd_Mo_weigh_27 (fun h27 => absurd h27 (by decide)) (fun h27 => ?_)
          refine gx_ldc2 C dd_Mo_weigh_30 kc_Mo_79 (kk := ?_)
          refine gx_lret C dd_Mo_weigh_33 ?_
          have hwn : we_an (σ.1 i) (nI X) (nI Y) = none := by
            unfold we_an
            simp only [hrx, hry, hst]
          have hsp : o_weigh σ (nI i) (nI X) (nI Y) = (-1, σ) := by
            unfold o_weigh
            simp only [hi, hwn]
            rfl
          rw [hsp]
          exact ⟨F, L, S, rfl, hr, rfl⟩
        · rw [hst] at hsq0
          have hxab := hok.1.2.2.2.2 xa hst
          refine gx_aload_n C 0 dd_Mo_weigh_21 (kk := ?_)
          refine mo_get C fd_Mo_13 dd_Mo_weigh_22 (kk := ?_)
          refine gx_iload_n C 1 dd_Mo_weigh_25 (kk := ?_)
          refine mo_l45 C dd_Mo_weigh_26 (by omega) (kk := ?_)
          refine gx_topi _ hsq0.1 ?_
          refine gx_if_ge C 34 dd_Mo_weigh_27 (fun h27 => ?_) (fun h27 => absurd (nI_pos' (by omega)) h27)
          refine gx_aload_n C 0 dd_Mo_weigh_34 (kk := ?_)
          refine gx_iload_n C 2 dd_Mo_weigh_35 (kk := ?_)
          refine gx_callS C (ct_Mo_sizeOf (gx_l K) D dA _ (nI X)) me_Mo_sizeOf ml_Mo_168 ms_Mo_sizeOf dd_Mo_weigh_36 (kk := fun v w hq => ?_)
          obtain ⟨rfl, rfl⟩ := hq
          refine gx_topi (nI M.length) (by rw [hrx]; rfl) ?_
          refine mo_put_23 C fw_Mo_162 dd_Mo_weigh_39 (kk := fun S39 hS39 => ?_)
          refine gx_aload_n C 0 dd_Mo_weigh_42 (kk := ?_)
          refine gx_iload_n C 3 dd_Mo_weigh_43 (kk := ?_)
          refine gx_callS C (ct_Mo_sizeOf (gx_l K) D dA _ (nI Y)) me_Mo_sizeOf ml_Mo_168 ms_Mo_sizeOf dd_Mo_weigh_44 (kk := fun v w hq => ?_)
          obtain ⟨rfl, rfl⟩ := hq
          refine gx_topi (nI M2.length) (by rw [hry]; rfl) ?_
          refine mo_put_24 C fw_Mo_165 dd_Mo_weigh_47 (kk := fun S47 hS47 => ?_)
          refine gx_iconst (v := nI 0) C dd_Mo_weigh_50 (kk := ?_)
          refine gx_istore C _ dd_Mo_weigh_51 (kk := ?_)
          obtain ⟨S1, hS1⟩ : ∃ z, z = S47 := ⟨_, rfl⟩
          have hS23 : S1 23 = nI M.length := by rw [hS1, hS47, gm_un (by decide), hS39, gm_us]
          have hS24 : S1 24 = nI M2.length := by rw [hS1, hS47, gm_us]
          have hS10 : S1 10 = S 10 := by rw [hS1, hS47, gm_un (by decide), hS39, gm_un (by decide)]
          have hS14 : S1 14 = S 14 := by rw [hS1, hS47, gm_un (by decide), hS39, gm_un (by decide)]
          rw [← hS1]
          have rows : ∀ m t F1, t + m = 8 → mr_to F1 61 t X 0 M → mr_to F1 62 t Y 0 M2 → mo_w F L F1 L → gx_G K D 12 0 0 53 [(4, .int (nI t)), (0, .ref (ad 43)), (1, .int (nI i)), (2, .int (nI X)), (3, .int (nI Y))] [] (gx_w ad (mo_h dA ad h F1 L S1)) (gx_Z K D dA 0 0 (fun v w => ∃ F2 L2 S2, w = (gx_w ad (mo_h dA ad h F2 L2 S2)) ∧ rs F2 L2 S2 (o_weigh σ (nI i) (nI X) (nI Y)).2 ∧ v = some (.long (o_weigh σ (nI i) (nI X) (nI Y)).1))) := by
            intro m
            induction m with
            | zero =>
              intro t F1 ht0 h61 h62 hw1
              refine gx_iload C 0 dd_Mo_weigh_53 (kk := ?_)
              refine gx_bipush (v := nI 8) C dd_Mo_weigh_55 (kk := ?_)
              refine gx_icmp_ge C 126 dd_Mo_weigh_57 (fun h57 => ?_) (fun h57 => absurd (nI_le (a := 8) (b := t) (by omega) (by omega)) h57)
              refine gx_iconst (v := nI 0) C dd_Mo_weigh_126 (kk := ?_)
              refine gx_istore C _ dd_Mo_weigh_127 (kk := ?_)
              rw [show t = 8 by omega] at h61 h62
              have hr61 : mrow F1 61 M.reverse := mr_fin (n := 0) hdx h61
              have hr62 : mrow F1 62 M2.reverse := mr_fin (n := 0) hdy h62
              have table : ∀ m2 t L1, t + m2 = 1296 → (∀ s, s < t → L1 60 s = mf none) → mo_w F L F1 L1 → gx_G K D 12 0 0 129 [(4, .int (nI t)), (0, .ref (ad 43)), (1, .int (nI i)), (2, .int (nI X)), (3, .int (nI Y))] [] (gx_w ad (mo_h dA ad h F1 L1 S1)) (gx_Z K D dA 0 0 (fun v w => ∃ F2 L2 S2, w = (gx_w ad (mo_h dA ad h F2 L2 S2)) ∧ rs F2 L2 S2 (o_weigh σ (nI i) (nI X) (nI Y)).2 ∧ v = some (.long (o_weigh σ (nI i) (nI X) (nI Y)).1))) := by
                intro m2
                induction m2 with
                | zero =>
                  intro t L1 ht0 hft hw1
                  refine gx_iload C 0 dd_Mo_weigh_129 (kk := ?_)
                  refine gx_sipush (v := nI 1296) C dd_Mo_weigh_131 (kk := ?_)
                  refine gx_icmp_ge C 153 dd_Mo_weigh_134 (fun h134 => ?_) (fun h134 => absurd (nI_le (a := 1296) (b := t) (by omega) (by omega)) h134)
                  have hsq1 := (mo_w_is hw1 hi4 (hM i hi4)).2.1
                  rw [hst] at hsq1
                  refine gx_aload_n C 1 dd_Mo_weigh_153 (kk := ?_)
                  refine mo_get C fd_Mo_60 dd_Mo_weigh_154 (kk := ?_)
                  refine gx_bipush (v := nI 81) C dd_Mo_weigh_157 (kk := ?_)
                  refine gx_aload_n C 1 dd_Mo_weigh_159 (kk := ?_)
                  refine mo_get C fd_Mo_13 dd_Mo_weigh_160 (kk := ?_)
                  refine gx_iload_n C 2 dd_Mo_weigh_163 (kk := ?_)
                  refine mo_l45 C dd_Mo_weigh_164 (by omega) (kk := ?_)
                  refine gx_topi _ hsq1.1 ?_
                  refine gx_imul C dd_Mo_weigh_165 (kk := ?_)
                  refine gx_topi _ (pk_mul _ _) ?_
                  refine gx_aload_n C 1 dd_Mo_weigh_166 (kk := ?_)
                  refine mo_get C fd_Mo_16 dd_Mo_weigh_167 (kk := ?_)
                  refine gx_iload_n C 2 dd_Mo_weigh_170 (kk := ?_)
                  refine mo_l46 C dd_Mo_weigh_171 (by omega) (kk := ?_)
                  refine gx_topl _ hsq1.2 ?_
                  refine mo_s60 C dd_Mo_weigh_172 (by omega) (kk := fun L172 hL172 => ?_)
                  refine gx_iconst (v := nI 1) C dd_Mo_weigh_173 (kk := ?_)
                  refine gx_istore C _ dd_Mo_weigh_174 (kk := ?_)
                  refine gx_iconst (v := nI 0) C dd_Mo_weigh_176 (kk := ?_)
                  refine gx_istore C _ dd_Mo_weigh_177 (kk := ?_)
                  have hmt2 : mtb L172 (we_v0 xa.1 xa.2) := by
                    have h1 : mtb L1 (fun _ => none) := fun q i2 j2 a1 a2 a3 => hft _ (by omega)
                    have h2 := mtb_up (q := xa.1) (i := 0) (j := 0) (o := some xa.2) (by omega) (by decide) (by decide) hL172 rfl h1
                    have h3 : va_up (fun _ => none : ls_V) ((0 * 9 + 0) * 16 + xa.1) (some xa.2) = (we_v0 xa.1 xa.2) := by
                      funext q
                      unfold we_v0
                      by_cases hq : q = xa.1
                      · rw [if_pos hq, hq, Nat.zero_mul, Nat.zero_add]
                        exact gm_us
                      · rw [if_neg hq]
                        exact gm_un (by omega)
                    rw [h3] at h2
                    exact h2
                  have hvb : sp_b ((0 * 5184 + 1) * 1000000001) (we_v0 xa.1 xa.2) := fun q y hy => by
                    unfold we_v0 at hy
                    split at hy
                    · cases hy; omega
                    · cases hy
                  have rounds : ∀ m2 r0 c v2 L2, r0 + m2 = 1300 → v2 = ls_it (wK M.reverse M2.reverse (am_ar (σ.1 i))) r0 (we_v0 xa.1 xa.2) → mtb L2 v2 → sp_b ((r0 * 5184 + 1) * 1000000001) v2 → (c = 0 ∨ c = 1) → (c = 0 → ls_rd (wK M.reverse M2.reverse (am_ar (σ.1 i))) v2 = v2) → mo_w F L F1 L2 → gx_G K D 12 0 0 179 [(5, .int (nI r0)), (4, .int (nI c)), (0, .ref (ad 43)), (1, .int (nI i)), (2, .int (nI X)), (3, .int (nI Y))] [] (gx_w ad (mo_h dA ad h F1 L2 S1)) (gx_Z K D dA 0 0 (fun v w => ∃ F2 L2 S2, w = (gx_w ad (mo_h dA ad h F2 L2 S2)) ∧ rs F2 L2 S2 (o_weigh σ (nI i) (nI X) (nI Y)).2 ∧ v = some (.long (o_weigh σ (nI i) (nI X) (nI Y)).1))) := by
                    intro m2
                    induction m2 with
                    | zero =>
                      intro r0 c v2 L2 hr0 hvr hmt hB2 hcc hcl hw2
                      refine gx_iload C 0 dd_Mo_weigh_179 (kk := ?_)
                      refine gx_sipush (v := nI 1300) C dd_Mo_weigh_181 (kk := ?_)
                      refine gx_icmp_ge C 205 dd_Mo_weigh_184 (fun h184 => ?_) (fun h184 => absurd (nI_le (a := 1300) (b := r0) (by omega) (by omega)) h184)
                      refine gx_ldc2 C dd_Mo_weigh_205 kc_Mo_129 (kk := ?_)
                      refine gx_lstore C _ dd_Mo_weigh_208 (kk := ?_)
                      refine gx_iconst (v := nI 0) C dd_Mo_weigh_210 (kk := ?_)
                      refine gx_istore C _ dd_Mo_weigh_211 (kk := ?_)
                      refine gx_loc [0, 1, 3, 4, 5, 6] ?_
                      have hV2 : v2 = we_V M.reverse M2.reverse (am_ar (σ.1 i)) xa.1 xa.2 := wK_V (by rw [List.length_reverse]; exact hl1) (by rw [List.length_reverse]; exact hl2) (fun x hx => (hok.1.2.2.1 x hx).1) (by rw [hvr, show r0 = 1300 by omega]; exact wK_fix.mpr (wK_it (by rw [List.length_reverse]; exact hl1) (by rw [List.length_reverse]; exact hl2) (fun x hx => (hok.1.2.2.1 x hx).1)))
                      have hB3 : sp_b 1000000000000000000 (fun q => v2 ((M.length * 9 + M2.length) * 16 + q)) := fun s x hx => by have := hB2 _ _ hx; omega
                      have best : ∀ m2 q, q + m2 = am_n (σ.1 i) → gx_G K D 12 0 0 213 [(7, .int (nI q)), (5, .long (mf (ba_le (fun q => v2 ((M.length * 9 + M2.length) * 16 + q)) (am_en (σ.1 i)) q))), (0, .ref (ad 43)), (1, .int (nI i)), (2, .int (nI X)), (3, .int (nI Y))] [] (gx_w ad (mo_h dA ad h F1 L2 S1)) (gx_Z K D dA 0 0 (fun v w => ∃ F2 L2 S2, w = (gx_w ad (mo_h dA ad h F2 L2 S2)) ∧ rs F2 L2 S2 (o_weigh σ (nI i) (nI X) (nI Y)).2 ∧ v = some (.long (o_weigh σ (nI i) (nI X) (nI Y)).1))) := by
                        intro m2
                        induction m2 with
                        | zero =>
                          intro q hq0
                          refine gx_iload C 0 dd_Mo_weigh_213 (kk := ?_)
                          refine gx_aload_n C 2 dd_Mo_weigh_215 (kk := ?_)
                          refine mo_get C fd_Mo_7 dd_Mo_weigh_216 (kk := ?_)
                          refine gx_iload_n C 3 dd_Mo_weigh_219 (kk := ?_)
                          refine mo_l44 C dd_Mo_weigh_220 (by omega) (kk := ?_)
                          refine gx_topi _ (mo_w_is hw2 hi4 (hM i hi4)).1 ?_
                          refine gx_icmp_ge C 308 dd_Mo_weigh_221 (fun h221 => ?_) (fun h221 => absurd (nI_le (a := am_n (σ.1 i)) (b := q) (by omega) (by omega)) h221)
                          obtain rfl : q = am_n (σ.1 i) := by omega
                          rcases hble : (ba_le (fun q => v2 ((M.length * 9 + M2.length) * 16 + q)) (am_en (σ.1 i)) (am_n (σ.1 i))) with _ | e
                          · refine gx_lload C 1 dd_Mo_weigh_308 (kk := ?_)
                            refine gx_ldc2 C dd_Mo_weigh_310 kc_Mo_129 (kk := ?_)
                            refine gx_lcmp C dd_Mo_weigh_313 (kk := ?_)
                            refine gx_if_ge C 322 dd_Mo_weigh_314 (fun h314 => ?_) (fun h314 => absurd (by decide) h314)
                            refine gx_ldc2 C dd_Mo_weigh_322 kc_Mo_79 (kk := ?_)
                            refine gx_lret C dd_Mo_weigh_325 ?_
                            have hsp : o_weigh σ (nI i) (nI X) (nI Y) = (am_e (none), σ) := by
                              unfold o_weigh we_an
                              simp only [hi, hrx, hry, hst]
                              rw [← hV2, hble]
                            rw [hsp]
                            exact ⟨_, _, _, rfl, mo_w_rs hw2 hS10 hS14 hr, rfl⟩
                          · have heb := ba_le_b hB3 (fun q e he => Nat.lt_trans (hok.1.2.2.2.1 q e he) (by decide)) _ _ hble
                            refine gx_lload C 1 dd_Mo_weigh_308 (kk := ?_)
                            refine gx_ldc2 C dd_Mo_weigh_310 kc_Mo_129 (kk := ?_)
                            refine gx_lcmp C dd_Mo_weigh_313 (kk := ?_)
                            refine gx_if_ge C 322 dd_Mo_weigh_314 (fun h314 => absurd (lc_ge.mp h314) (mf_fl (by omega))) (fun h314 => ?_)
                            refine gx_lload C 1 dd_Mo_weigh_317 (kk := ?_)
                            refine gx_goto C 325 dd_Mo_weigh_319 (kk := ?_)
                            refine gx_lret C dd_Mo_weigh_325 ?_
                            have hsp : o_weigh σ (nI i) (nI X) (nI Y) = (am_e (some e), σ) := by
                              unfold o_weigh we_an
                              simp only [hi, hrx, hry, hst]
                              rw [← hV2, hble]
                            rw [hsp]
                            exact ⟨_, _, _, rfl, mo_w_rs hw2 hS10 hS14 hr, rfl⟩
                        | succ m2 ihq =>
                          intro q hq0
                          refine gx_iload C 0 dd_Mo_weigh_213 (kk := ?_)
                          refine gx_aload_n C 2 dd_Mo_weigh_215 (kk := ?_)
                          refine mo_get C fd_Mo_7 dd_Mo_weigh_216 (kk := ?_)
                          refine gx_iload_n C 3 dd_Mo_weigh_219 (kk := ?_)
                          refine mo_l44 C dd_Mo_weigh_220 (by omega) (kk := ?_)
                          refine gx_topi _ (mo_w_is hw2 hi4 (hM i hi4)).1 ?_
                          refine gx_icmp_ge C 308 dd_Mo_weigh_221 (fun h221 => absurd h221 (nI_ge (by omega) (by omega))) (fun h221 => ?_)
                          refine gx_aload_n C 2 dd_Mo_weigh_224 (kk := ?_)
                          refine mo_get C fd_Mo_60 dd_Mo_weigh_225 (kk := ?_)
                          refine gx_bipush (v := nI 81) C dd_Mo_weigh_228 (kk := ?_)
                          refine gx_iload C 0 dd_Mo_weigh_230 (kk := ?_)
                          refine gx_imul C dd_Mo_weigh_232 (kk := ?_)
                          refine gx_topi _ (pk_mul _ _) ?_
                          refine gx_bipush (v := nI 9) C dd_Mo_weigh_233 (kk := ?_)
                          refine gx_aload_n C 2 dd_Mo_weigh_235 (kk := ?_)
                          refine mo_get C fd_Mo_162 dd_Mo_weigh_236 (kk := ?_)
                          refine gx_topi _ hS23 ?_
                          refine gx_imul C dd_Mo_weigh_239 (kk := ?_)
                          refine gx_topi _ (pk_mul _ _) ?_
                          refine gx_iadd C dd_Mo_weigh_240 (kk := ?_)
                          refine gx_topi _ (nI_add _ _) ?_
                          refine gx_aload_n C 2 dd_Mo_weigh_241 (kk := ?_)
                          refine mo_get C fd_Mo_165 dd_Mo_weigh_242 (kk := ?_)
                          refine gx_topi _ hS24 ?_
                          refine gx_iadd C dd_Mo_weigh_245 (kk := ?_)
                          refine gx_topi _ (nI_add _ _) ?_
                          refine mo_l60 C dd_Mo_weigh_246 (by omega) (kk := ?_)
                          refine gx_topl _ (hmt q M.length M2.length (by omega) (by omega) (by omega)) ?_
                          refine gx_lstore C _ dd_Mo_weigh_247 (kk := ?_)
                          refine gx_aload_n C 3 dd_Mo_weigh_249 (kk := ?_)
                          refine mo_get C fd_Mo_20 dd_Mo_weigh_250 (kk := ?_)
                          refine gx_bipush (v := nI 16) C dd_Mo_weigh_253 (kk := ?_)
                          refine gx_iload_n C 4 dd_Mo_weigh_255 (kk := ?_)
                          refine gx_imul C dd_Mo_weigh_256 (kk := ?_)
                          refine gx_topi _ (pk_mul _ _) ?_
                          refine gx_iload C 1 dd_Mo_weigh_257 (kk := ?_)
                          refine gx_iadd C dd_Mo_weigh_259 (kk := ?_)
                          refine gx_topi _ (nI_add _ _) ?_
                          refine mo_l47 C dd_Mo_weigh_260 (by omega) (kk := ?_)
                          refine gx_topl _ ((mo_w_is hw2 hi4 (hM i hi4)).2.2.1 q (by omega)) ?_
                          refine gx_lstore C _ dd_Mo_weigh_261 (kk := ?_)
                          rcases hvq : v2 ((M.length * 9 + M2.length) * 16 + q) with _ | d
                          · refine gx_lload C 1 dd_Mo_weigh_263 (kk := ?_)
                            refine gx_ldc2 C dd_Mo_weigh_265 kc_Mo_129 (kk := ?_)
                            refine gx_lcmp C dd_Mo_weigh_268 (kk := ?_)
                            refine gx_if_ge C 298 dd_Mo_weigh_269 (fun h269 => ?_) (fun h269 => absurd (by decide) h269)
                            refine gx_lload C 3 dd_Mo_weigh_298 (kk := ?_)
                            refine gx_topl (mf (ba_le (fun q => v2 ((M.length * 9 + M2.length) * 16 + q)) (am_en (σ.1 i)) (q + 1))) ?_ ?_
                            · show _ = mf (om (ba_le (fun q => v2 ((M.length * 9 + M2.length) * 16 + q)) (am_en (σ.1 i)) q) (co_oa (v2 ((M.length * 9 + M2.length) * 16 + q)) (am_en (σ.1 i) q)))
                              rw [hvq]
                              exact congrArg mf (om_n (by show ¬ ls_lt none _ = true; simp [ls_lt])).symm
                            refine gx_lstore C _ dd_Mo_weigh_300 (kk := ?_)
                            refine gx_iinc C 3 (nI (q + 1)) _ dd_Mo_weigh_302 (nI_1 _) (kk := ?_)
                            refine gx_goto C 213 dd_Mo_weigh_305 (kk := ?_)
                            refine gx_loc [0, 1, 4, 5, 6, 7] ?_
                            exact ihq (q + 1) (by omega)
                          · have hdb := hB2 _ _ hvq
                            refine gx_lload C 1 dd_Mo_weigh_263 (kk := ?_)
                            refine gx_ldc2 C dd_Mo_weigh_265 kc_Mo_129 (kk := ?_)
                            refine gx_lcmp C dd_Mo_weigh_268 (kk := ?_)
                            refine gx_if_ge C 298 dd_Mo_weigh_269 (fun h269 => absurd (lc_ge.mp h269) (mf_fl (by omega))) (fun h269 => ?_)
                            rcases heq : am_en (σ.1 i) q with _ | e
                            · refine gx_lload C 0 dd_Mo_weigh_272 (kk := ?_)
                              refine gx_lconst (v := lN 0) C dd_Mo_weigh_274 (kk := ?_)
                              refine gx_lcmp C dd_Mo_weigh_275 (kk := ?_)
                              refine gx_if_lt C 298 dd_Mo_weigh_276 (fun h276 => ?_) (fun h276 => absurd (by decide) h276)
                              refine gx_lload C 3 dd_Mo_weigh_298 (kk := ?_)
                              refine gx_topl (mf (ba_le (fun q => v2 ((M.length * 9 + M2.length) * 16 + q)) (am_en (σ.1 i)) (q + 1))) ?_ ?_
                              · show _ = mf (om (ba_le (fun q => v2 ((M.length * 9 + M2.length) * 16 + q)) (am_en (σ.1 i)) q) (co_oa (v2 ((M.length * 9 + M2.length) * 16 + q)) (am_en (σ.1 i) q)))
                                rw [hvq, heq]
                                exact congrArg mf (om_n (by show ¬ ls_lt none _ = true; simp [ls_lt])).symm
                              refine gx_lstore C _ dd_Mo_weigh_300 (kk := ?_)
                              refine gx_iinc C 3 (nI (q + 1)) _ dd_Mo_weigh_302 (nI_1 _) (kk := ?_)
                              refine gx_goto C 213 dd_Mo_weigh_305 (kk := ?_)
                              refine gx_loc [0, 1, 4, 5, 6, 7] ?_
                              exact ihq (q + 1) (by omega)
                            · have heb := hok.1.2.2.2.1 _ _ heq
                              refine gx_lload C 0 dd_Mo_weigh_272 (kk := ?_)
                              refine gx_lconst (v := lN 0) C dd_Mo_weigh_274 (kk := ?_)
                              refine gx_lcmp C dd_Mo_weigh_275 (kk := ?_)
                              refine gx_if_lt C 298 dd_Mo_weigh_276 (fun h276 => absurd (lc_lt.mp h276) (by show ¬ lN e < lN 0; rw [pk_lLT (by omega) (by decide)]; omega)) (fun h276 => ?_)
                              refine gx_lload C 1 dd_Mo_weigh_279 (kk := ?_)
                              refine gx_topl (lN d) rfl ?_
                              refine gx_lload C 0 dd_Mo_weigh_281 (kk := ?_)
                              refine gx_topl (lN e) rfl ?_
                              refine gx_ladd C dd_Mo_weigh_283 (kk := ?_)
                              refine gx_topl _ (lN_add _ _) ?_
                              refine gx_lload C 3 dd_Mo_weigh_284 (kk := ?_)
                              refine gx_lcmp C dd_Mo_weigh_286 (kk := ?_)
                              refine gx_if_ge C 298 dd_Mo_weigh_287 (fun h287 => ?_) (fun h287 => ?_)
                              · refine gx_lload C 3 dd_Mo_weigh_298 (kk := ?_)
                                refine gx_topl (mf (ba_le (fun q => v2 ((M.length * 9 + M2.length) * 16 + q)) (am_en (σ.1 i)) (q + 1))) ?_ ?_
                                · rw [lc_ge, ← Int64.not_lt, show lN (d + e) = mf (some (d + e)) from rfl, mf_lt (fun y hy => by cases hy; omega) (fun y hy => by have := ba_le_b hB3 (fun q e he => Nat.lt_trans (hok.1.2.2.2.1 q e he) (by decide)) _ _ hy; omega)] at h287
                                  show _ = mf (om (ba_le (fun q => v2 ((M.length * 9 + M2.length) * 16 + q)) (am_en (σ.1 i)) q) (co_oa (v2 ((M.length * 9 + M2.length) * 16 + q)) (am_en (σ.1 i) q)))
                                  rw [hvq, heq]
                                  exact congrArg mf (om_n h287).symm
                                refine gx_lstore C _ dd_Mo_weigh_300 (kk := ?_)
                                refine gx_iinc C 3 (nI (q + 1)) _ dd_Mo_weigh_302 (nI_1 _) (kk := ?_)
                                refine gx_goto C 213 dd_Mo_weigh_305 (kk := ?_)
                                refine gx_loc [0, 1, 4, 5, 6, 7] ?_
                                exact ihq (q + 1) (by omega)
                              · refine gx_lload C 1 dd_Mo_weigh_290 (kk := ?_)
                                refine gx_topl (lN d) rfl ?_
                                refine gx_lload C 0 dd_Mo_weigh_292 (kk := ?_)
                                refine gx_topl (lN e) rfl ?_
                                refine gx_ladd C dd_Mo_weigh_294 (kk := ?_)
                                refine gx_topl _ (lN_add _ _) ?_
                                refine gx_goto C 300 dd_Mo_weigh_295 (kk := ?_)
                                refine gx_topl (mf (ba_le (fun q => v2 ((M.length * 9 + M2.length) * 16 + q)) (am_en (σ.1 i)) (q + 1))) ?_ ?_
                                · rw [lc_ge, ← Int64.not_lt, Classical.not_not, show lN (d + e) = mf (some (d + e)) from rfl, mf_lt (fun y hy => by cases hy; omega) (fun y hy => by have := ba_le_b hB3 (fun q e he => Nat.lt_trans (hok.1.2.2.2.1 q e he) (by decide)) _ _ hy; omega)] at h287
                                  show _ = mf (om (ba_le (fun q => v2 ((M.length * 9 + M2.length) * 16 + q)) (am_en (σ.1 i)) q) (co_oa (v2 ((M.length * 9 + M2.length) * 16 + q)) (am_en (σ.1 i) q)))
                                  rw [hvq, heq]
                                  exact congrArg mf (om_y h287).symm
                                refine gx_lstore C _ dd_Mo_weigh_300 (kk := ?_)
                                refine gx_iinc C 3 (nI (q + 1)) _ dd_Mo_weigh_302 (nI_1 _) (kk := ?_)
                                refine gx_goto C 213 dd_Mo_weigh_305 (kk := ?_)
                                refine gx_loc [0, 1, 4, 5, 6, 7] ?_
                                exact ihq (q + 1) (by omega)
                      exact best (am_n (σ.1 i)) 0 (by omega)
                    | succ m2 ihr =>
                      intro r0 c v2 L2 hr0 hvr hmt hB2 hcc hcl hw2
                      refine gx_iload C 0 dd_Mo_weigh_179 (kk := ?_)
                      refine gx_sipush (v := nI 1300) C dd_Mo_weigh_181 (kk := ?_)
                      refine gx_icmp_ge C 205 dd_Mo_weigh_184 (fun h184 => absurd h184 (nI_ge (by omega) (by omega))) (fun h184 => ?_)
                      rcases hcc with rfl | rfl
                      · refine gx_iload C 1 dd_Mo_weigh_187 (kk := ?_)
                        refine gx_if_eq C 205 dd_Mo_weigh_189 (fun h189 => ?_) (fun h189 => absurd rfl h189)
                        refine gx_ldc2 C dd_Mo_weigh_205 kc_Mo_129 (kk := ?_)
                        refine gx_lstore C _ dd_Mo_weigh_208 (kk := ?_)
                        refine gx_iconst (v := nI 0) C dd_Mo_weigh_210 (kk := ?_)
                        refine gx_istore C _ dd_Mo_weigh_211 (kk := ?_)
                        refine gx_loc [0, 1, 3, 4, 5, 6] ?_
                        have hV2 : v2 = we_V M.reverse M2.reverse (am_ar (σ.1 i)) xa.1 xa.2 := wK_V (by rw [List.length_reverse]; exact hl1) (by rw [List.length_reverse]; exact hl2) (fun x hx => (hok.1.2.2.1 x hx).1) ⟨by rw [hvr]; exact ls_it_le _ _ _, ls_rd_fix (hcl rfl), fun Y h1 h2 => by rw [hvr]; exact ls_it_ge h1 h2 _⟩
                        have hB3 : sp_b 1000000000000000000 (fun q => v2 ((M.length * 9 + M2.length) * 16 + q)) := fun s x hx => by have := hB2 _ _ hx; omega
                        have best : ∀ m2 q, q + m2 = am_n (σ.1 i) → gx_G K D 12 0 0 213 [(7, .int (nI q)), (5, .long (mf (ba_le (fun q => v2 ((M.length * 9 + M2.length) * 16 + q)) (am_en (σ.1 i)) q))), (0, .ref (ad 43)), (1, .int (nI i)), (2, .int (nI X)), (3, .int (nI Y))] [] (gx_w ad (mo_h dA ad h F1 L2 S1)) (gx_Z K D dA 0 0 (fun v w => ∃ F2 L2 S2, w = (gx_w ad (mo_h dA ad h F2 L2 S2)) ∧ rs F2 L2 S2 (o_weigh σ (nI i) (nI X) (nI Y)).2 ∧ v = some (.long (o_weigh σ (nI i) (nI X) (nI Y)).1))) := by
                          intro m2
                          induction m2 with
                          | zero =>
                            intro q hq0
                            refine gx_iload C 0 dd_Mo_weigh_213 (kk := ?_)
                            refine gx_aload_n C 2 dd_Mo_weigh_215 (kk := ?_)
                            refine mo_get C fd_Mo_7 dd_Mo_weigh_216 (kk := ?_)
                            refine gx_iload_n C 3 dd_Mo_weigh_219 (kk := ?_)
                            refine mo_l44 C dd_Mo_weigh_220 (by omega) (kk := ?_)
                            refine gx_topi _ (mo_w_is hw2 hi4 (hM i hi4)).1 ?_
                            refine gx_icmp_ge C 308 dd_Mo_weigh_221 (fun h221 => ?_) (fun h221 => absurd (nI_le (a := am_n (σ.1 i)) (b := q) (by omega) (by omega)) h221)
                            obtain rfl : q = am_n (σ.1 i) := by omega
                            rcases hble : (ba_le (fun q => v2 ((M.length * 9 + M2.length) * 16 + q)) (am_en (σ.1 i)) (am_n (σ.1 i))) with _ | e
                            · refine gx_lload C 1 dd_Mo_weigh_308 (kk := ?_)
                              refine gx_ldc2 C dd_Mo_weigh_310 kc_Mo_129 (kk := ?_)
                              refine gx_lcmp C dd_Mo_weigh_313 (kk := ?_)
                              refine gx_if_ge C 322 dd_Mo_weigh_314 (fun h314 => ?_) (fun h314 => absurd (by decide) h314)
                              refine gx_ldc2 C dd_Mo_weigh_322 kc_Mo_79 (kk := ?_)
                              refine gx_lret C dd_Mo_weigh_325 ?_
                              have hsp : o_weigh σ (nI i) (nI X) (nI Y) = (am_e (none), σ) := by
                                unfold o_weigh we_an
                                simp only [hi, hrx, hry, hst]
                                rw [← hV2, hble]
                              rw [hsp]
                              exact ⟨_, _, _, rfl, mo_w_rs hw2 hS10 hS14 hr, rfl⟩
                            · have heb := ba_le_b hB3 (fun q e he => Nat.lt_trans (hok.1.2.2.2.1 q e he) (by decide)) _ _ hble
                              refine gx_lload C 1 dd_Mo_weigh_308 (kk := ?_)
                              refine gx_ldc2 C dd_Mo_weigh_310 kc_Mo_129 (kk := ?_)
                              refine gx_lcmp C dd_Mo_weigh_313 (kk := ?_)
                              refine gx_if_ge C 322 dd_Mo_weigh_314 (fun h314 => absurd (lc_ge.mp h314) (mf_fl (by omega))) (fun h314 => ?_)
                              refine gx_lload C 1 dd_Mo_weigh_317 (kk := ?_)
                              refine gx_goto C 325 dd_Mo_weigh_319 (kk := ?_)
                              refine gx_lret C dd_Mo_weigh_325 ?_
                              have hsp : o_weigh σ (nI i) (nI X) (nI Y) = (am_e (some e), σ) := by
                                unfold o_weigh we_an
                                simp only [hi, hrx, hry, hst]
                                rw [← hV2, hble]
                              rw [hsp]
                              exact ⟨_, _, _, rfl, mo_w_rs hw2 hS10 hS14 hr, rfl⟩
                          | succ m2 ihq =>
                            intro q hq0
                            refine gx_iload C 0 dd_Mo_weigh_213 (kk := ?_)
                            refine gx_aload_n C 2 dd_Mo_weigh_215 (kk := ?_)
                            refine mo_get C fd_Mo_7 dd_Mo_weigh_216 (kk := ?_)
                            refine gx_iload_n C 3 dd_Mo_weigh_219 (kk := ?_)
                            refine mo_l44 C dd_Mo_weigh_220 (by omega) (kk := ?_)
                            refine gx_topi _ (mo_w_is hw2 hi4 (hM i hi4)).1 ?_
                            refine gx_icmp_ge C 308 dd_Mo_weigh_221 (fun h221 => absurd h221 (nI_ge (by omega) (by omega))) (fun h221 => ?_)
                            refine gx_aload_n C 2 dd_Mo_weigh_224 (kk := ?_)
                            refine mo_get C fd_Mo_60 dd_Mo_weigh_225 (kk := ?_)
                            refine gx_bipush (v := nI 81) C dd_Mo_weigh_228 (kk := ?_)
                            refine gx_iload C 0 dd_Mo_weigh_230 (kk := ?_)
                            refine gx_imul C dd_Mo_weigh_232 (kk := ?_)
                            refine gx_topi _ (pk_mul _ _) ?_
                            refine gx_bipush (v := nI 9) C dd_Mo_weigh_233 (kk := ?_)
                            refine gx_aload_n C 2 dd_Mo_weigh_235 (kk := ?_)
                            refine mo_get C fd_Mo_162 dd_Mo_weigh_236 (kk := ?_)
                            refine gx_topi _ hS23 ?_
                            refine gx_imul C dd_Mo_weigh_239 (kk := ?_)
                            refine gx_topi _ (pk_mul _ _) ?_
                            refine gx_iadd C dd_Mo_weigh_240 (kk := ?_)
                            refine gx_topi _ (nI_add _ _) ?_
                            refine gx_aload_n C 2 dd_Mo_weigh_241 (kk := ?_)
                            refine mo_get C fd_Mo_165 dd_Mo_weigh_242 (kk := ?_)
                            refine gx_topi _ hS24 ?_
                            refine gx_iadd C dd_Mo_weigh_245 (kk := ?_)
                            refine gx_topi _ (nI_add _ _) ?_
                            refine mo_l60 C dd_Mo_weigh_246 (by omega) (kk := ?_)
                            refine gx_topl _ (hmt q M.length M2.length (by omega) (by omega) (by omega)) ?_
                            refine gx_lstore C _ dd_Mo_weigh_247 (kk := ?_)
                            refine gx_aload_n C 3 dd_Mo_weigh_249 (kk := ?_)
                            refine mo_get C fd_Mo_20 dd_Mo_weigh_250 (kk := ?_)
                            refine gx_bipush (v := nI 16) C dd_Mo_weigh_253 (kk := ?_)
                            refine gx_iload_n C 4 dd_Mo_weigh_255 (kk := ?_)
                            refine gx_imul C dd_Mo_weigh_256 (kk := ?_)
                            refine gx_topi _ (pk_mul _ _) ?_
                            refine gx_iload C 1 dd_Mo_weigh_257 (kk := ?_)
                            refine gx_iadd C dd_Mo_weigh_259 (kk := ?_)
                            refine gx_topi _ (nI_add _ _) ?_
                            refine mo_l47 C dd_Mo_weigh_260 (by omega) (kk := ?_)
                            refine gx_topl _ ((mo_w_is hw2 hi4 (hM i hi4)).2.2.1 q (by omega)) ?_
                            refine gx_lstore C _ dd_Mo_weigh_261 (kk := ?_)
                            rcases hvq : v2 ((M.length * 9 + M2.length) * 16 + q) with _ | d
                            · refine gx_lload C 1 dd_Mo_weigh_263 (kk := ?_)
                              refine gx_ldc2 C dd_Mo_weigh_265 kc_Mo_129 (kk := ?_)
                              refine gx_lcmp C dd_Mo_weigh_268 (kk := ?_)
                              refine gx_if_ge C 298 dd_Mo_weigh_269 (fun h269 => ?_) (fun h269 => absurd (by decide) h269)
                              refine gx_lload C 3 dd_Mo_weigh_298 (kk := ?_)
                              refine gx_topl (mf (ba_le (fun q => v2 ((M.length * 9 + M2.length) * 16 + q)) (am_en (σ.1 i)) (q + 1))) ?_ ?_
                              · show _ = mf (om (ba_le (fun q => v2 ((M.length * 9 + M2.length) * 16 + q)) (am_en (σ.1 i)) q) (co_oa (v2 ((M.length * 9 + M2.length) * 16 + q)) (am_en (σ.1 i) q)))
                                rw [hvq]
                                exact congrArg mf (om_n (by show ¬ ls_lt none _ = true; simp [ls_lt])).symm
                              refine gx_lstore C _ dd_Mo_weigh_300 (kk := ?_)
                              refine gx_iinc C 3 (nI (q + 1)) _ dd_Mo_weigh_302 (nI_1 _) (kk := ?_)
                              refine gx_goto C 213 dd_Mo_weigh_305 (kk := ?_)
                              refine gx_loc [0, 1, 4, 5, 6, 7] ?_
                              exact ihq (q + 1) (by omega)
                            · have hdb := hB2 _ _ hvq
                              refine gx_lload C 1 dd_Mo_weigh_263 (kk := ?_)
                              refine gx_ldc2 C dd_Mo_weigh_265 kc_Mo_129 (kk := ?_)
                              refine gx_lcmp C dd_Mo_weigh_268 (kk := ?_)
                              refine gx_if_ge C 298 dd_Mo_weigh_269 (fun h269 => absurd (lc_ge.mp h269) (mf_fl (by omega))) (fun h269 => ?_)
                              rcases heq : am_en (σ.1 i) q with _ | e
                              · refine gx_lload C 0 dd_Mo_weigh_272 (kk := ?_)
                                refine gx_lconst (v := lN 0) C dd_Mo_weigh_274 (kk := ?_)
                                refine gx_lcmp C dd_Mo_weigh_275 (kk := ?_)
                                refine gx_if_lt C 298 dd_Mo_weigh_276 (fun h276 => ?_) (fun h276 => absurd (by decide) h276)
                                refine gx_lload C 3 dd_Mo_weigh_298 (kk := ?_)
                                refine gx_topl (mf (ba_le (fun q => v2 ((M.length * 9 + M2.length) * 16 + q)) (am_en (σ.1 i)) (q + 1))) ?_ ?_
                                · show _ = mf (om (ba_le (fun q => v2 ((M.length * 9 + M2.length) * 16 + q)) (am_en (σ.1 i)) q) (co_oa (v2 ((M.length * 9 + M2.length) * 16 + q)) (am_en (σ.1 i) q)))
                                  rw [hvq, heq]
                                  exact congrArg mf (om_n (by show ¬ ls_lt none _ = true; simp [ls_lt])).symm
                                refine gx_lstore C _ dd_Mo_weigh_300 (kk := ?_)
                                refine gx_iinc C 3 (nI (q + 1)) _ dd_Mo_weigh_302 (nI_1 _) (kk := ?_)
                                refine gx_goto C 213 dd_Mo_weigh_305 (kk := ?_)
                                refine gx_loc [0, 1, 4, 5, 6, 7] ?_
                                exact ihq (q + 1) (by omega)
                              · have heb := hok.1.2.2.2.1 _ _ heq
                                refine gx_lload C 0 dd_Mo_weigh_272 (kk := ?_)
                                refine gx_lconst (v := lN 0) C dd_Mo_weigh_274 (kk := ?_)
                                refine gx_lcmp C dd_Mo_weigh_275 (kk := ?_)
                                refine gx_if_lt C 298 dd_Mo_weigh_276 (fun h276 => absurd (lc_lt.mp h276) (by show ¬ lN e < lN 0; rw [pk_lLT (by omega) (by decide)]; omega)) (fun h276 => ?_)
                                refine gx_lload C 1 dd_Mo_weigh_279 (kk := ?_)
                                refine gx_topl (lN d) rfl ?_
                                refine gx_lload C 0 dd_Mo_weigh_281 (kk := ?_)
                                refine gx_topl (lN e) rfl ?_
                                refine gx_ladd C dd_Mo_weigh_283 (kk := ?_)
                                refine gx_topl _ (lN_add _ _) ?_
                                refine gx_lload C 3 dd_Mo_weigh_284 (kk := ?_)
                                refine gx_lcmp C dd_Mo_weigh_286 (kk := ?_)
                                refine gx_if_ge C 298 dd_Mo_weigh_287 (fun h287 => ?_) (fun h287 => ?_)
                                · refine gx_lload C 3 dd_Mo_weigh_298 (kk := ?_)
                                  refine gx_topl (mf (ba_le (fun q => v2 ((M.length * 9 + M2.length) * 16 + q)) (am_en (σ.1 i)) (q + 1))) ?_ ?_
                                  · rw [lc_ge, ← Int64.not_lt, show lN (d + e) = mf (some (d + e)) from rfl, mf_lt (fun y hy => by cases hy; omega) (fun y hy => by have := ba_le_b hB3 (fun q e he => Nat.lt_trans (hok.1.2.2.2.1 q e he) (by decide)) _ _ hy; omega)] at h287
                                    show _ = mf (om (ba_le (fun q => v2 ((M.length * 9 + M2.length) * 16 + q)) (am_en (σ.1 i)) q) (co_oa (v2 ((M.length * 9 + M2.length) * 16 + q)) (am_en (σ.1 i) q)))
                                    rw [hvq, heq]
                                    exact congrArg mf (om_n h287).symm
                                  refine gx_lstore C _ dd_Mo_weigh_300 (kk := ?_)
                                  refine gx_iinc C 3 (nI (q + 1)) _ dd_Mo_weigh_302 (nI_1 _) (kk := ?_)
                                  refine gx_goto C 213 dd_Mo_weigh_305 (kk := ?_)
                                  refine gx_loc [0, 1, 4, 5, 6, 7] ?_
                                  exact ihq (q + 1) (by omega)
                                · refine gx_lload C 1 dd_Mo_weigh_290 (kk := ?_)
                                  refine gx_topl (lN d) rfl ?_
                                  refine gx_lload C 0 dd_Mo_weigh_292 (kk := ?_)
                                  refine gx_topl (lN e) rfl ?_
                                  refine gx_ladd C dd_Mo_weigh_294 (kk := ?_)
                                  refine gx_topl _ (lN_add _ _) ?_
                                  refine gx_goto C 300 dd_Mo_weigh_295 (kk := ?_)
                                  refine gx_topl (mf (ba_le (fun q => v2 ((M.length * 9 + M2.length) * 16 + q)) (am_en (σ.1 i)) (q + 1))) ?_ ?_
                                  · rw [lc_ge, ← Int64.not_lt, Classical.not_not, show lN (d + e) = mf (some (d + e)) from rfl, mf_lt (fun y hy => by cases hy; omega) (fun y hy => by have := ba_le_b hB3 (fun q e he => Nat.lt_trans (hok.1.2.2.2.1 q e he) (by decide)) _ _ hy; omega)] at h287
                                    show _ = mf (om (ba_le (fun q => v2 ((M.length * 9 + M2.length) * 16 + q)) (am_en (σ.1 i)) q) (co_oa (v2 ((M.length * 9 + M2.length) * 16 + q)) (am_en (σ.1 i) q)))
                                    rw [hvq, heq]
                                    exact congrArg mf (om_y h287).symm
                                  refine gx_lstore C _ dd_Mo_weigh_300 (kk := ?_)
                                  refine gx_iinc C 3 (nI (q + 1)) _ dd_Mo_weigh_302 (nI_1 _) (kk := ?_)
                                  refine gx_goto C 213 dd_Mo_weigh_305 (kk := ?_)
                                  refine gx_loc [0, 1, 4, 5, 6, 7] ?_
                                  exact ihq (q + 1) (by omega)
                        exact best (am_n (σ.1 i)) 0 (by omega)
                      · refine gx_iload C 1 dd_Mo_weigh_187 (kk := ?_)
                        refine gx_if_eq C 205 dd_Mo_weigh_189 (fun h189 => absurd h189 (by decide)) (fun h189 => ?_)
                        refine gx_aload_n C 2 dd_Mo_weigh_192 (kk := ?_)
                        refine gx_iload_n C 3 dd_Mo_weigh_193 (kk := ?_)
                        refine gx_callV C (ct_Mo_relax (gx_l K) D dA ad h F1 L2 S1 (ia := i) (B := (r0 * 5184 + 1) * 1000000001) (A := σ.1 i) (A0 := M.reverse) (B0 := M2.reverse) (v0 := v2) hi4 (mo_w_is hw2 hi4 (hM i hi4)) hok.1.2.2.1 (by rw [List.length_reverse]; exact hS23) (by rw [List.length_reverse]; exact hS24) hr61 hr62 hmt hB2 (by omega)) me_Mo_relax ml_Mo_174 mn_Mo_relax _ (gx_w_at (by decide) mo_h_43) rfl dd_Mo_weigh_194 (kk := fun v w hq => ?_)
                        obtain ⟨L3, v3, rfl, hL3, hmt3, hv3, hB3, c2, rfl, hc01, hc0⟩ := hq
                        refine gx_istore C _ dd_Mo_weigh_197 (kk := ?_)
                        refine gx_iinc C 1 (nI (r0 + 1)) _ dd_Mo_weigh_199 (nI_1 _) (kk := ?_)
                        refine gx_goto C 179 dd_Mo_weigh_202 (kk := ?_)
                        exact ihr (r0 + 1) c2 v3 L3 (by omega) (by rw [hv3, hvr]; rfl) hmt3 (sp_b_mono hB3 (by omega)) hc01 (fun e => by have h1 := hc0 e; rw [← h1] at hv3; exact hv3.symm) (mo_w_tr hw2 (mo_w_k (fun _ _ => rfl) (fun k hk => hL3 k (by omega))))
                  exact rounds 1300 0 1 (we_v0 xa.1 xa.2) L172 rfl rfl hmt2 hvb (Or.inr rfl) (fun e => absurd e (by decide)) (mo_w_tr hw1 (mo_w_L (by decide) hL172))
                | succ m2 iht =>
                  intro t L1 ht0 hft hw1
                  refine gx_iload C 0 dd_Mo_weigh_129 (kk := ?_)
                  refine gx_sipush (v := nI 1296) C dd_Mo_weigh_131 (kk := ?_)
                  refine gx_icmp_ge C 153 dd_Mo_weigh_134 (fun h134 => absurd h134 (nI_ge (by omega) (by omega))) (fun h134 => ?_)
                  refine gx_aload_n C 1 dd_Mo_weigh_137 (kk := ?_)
                  refine mo_get C fd_Mo_60 dd_Mo_weigh_138 (kk := ?_)
                  refine gx_iload C 0 dd_Mo_weigh_141 (kk := ?_)
                  refine gx_ldc2 C dd_Mo_weigh_143 kc_Mo_129 (kk := ?_)
                  refine mo_s60 C dd_Mo_weigh_146 (by omega) (kk := fun L146 hL146 => ?_)
                  refine gx_iinc C 0 (nI (t + 1)) _ dd_Mo_weigh_147 (nI_1 _) (kk := ?_)
                  refine gx_goto C 129 dd_Mo_weigh_150 (kk := ?_)
                  refine iht (t + 1) L146 (by omega) (fun s hs => ?_) (mo_w_tr hw1 (mo_w_L (by decide) hL146))
                  rw [hL146, gm_us]
                  by_cases hst2 : s = t
                  · rw [hst2, pk_uLs]
                    rfl
                  · rw [pk_uLn hst2]
                    exact hft s (by omega)
              exact table 1296 0 L rfl (fun s hs => absurd hs (Nat.not_lt_zero _)) hw1
            | succ m ih =>
              intro t F1 ht0 h61 h62 hw1
              refine gx_iload C 0 dd_Mo_weigh_53 (kk := ?_)
              refine gx_bipush (v := nI 8) C dd_Mo_weigh_55 (kk := ?_)
              refine gx_icmp_ge C 126 dd_Mo_weigh_57 (fun h57 => absurd h57 (nI_ge (by omega) (by omega))) (fun h57 => ?_)
              refine gx_aload_n C 1 dd_Mo_weigh_60 (kk := ?_)
              refine mo_get C fd_Mo_63 dd_Mo_weigh_61 (kk := ?_)
              refine gx_iload C 0 dd_Mo_weigh_64 (kk := ?_)
              rcases Nat.lt_or_ge t M.length with ha | ha
              · refine gx_iload C 0 dd_Mo_weigh_66 (kk := ?_)
                refine gx_aload_n C 1 dd_Mo_weigh_68 (kk := ?_)
                refine mo_get C fd_Mo_162 dd_Mo_weigh_69 (kk := ?_)
                refine gx_topi _ hS23 ?_
                refine gx_icmp_ge C 88 dd_Mo_weigh_72 (fun h72 => absurd h72 (nI_ge (by omega) (by omega))) (fun h72 => ?_)
                refine gx_iload_n C 3 dd_Mo_weigh_75 (kk := ?_)
                refine gx_aload_n C 1 dd_Mo_weigh_76 (kk := ?_)
                refine mo_get C fd_Mo_162 dd_Mo_weigh_77 (kk := ?_)
                refine gx_topi _ hS23 ?_
                refine gx_iload C 0 dd_Mo_weigh_80 (kk := ?_)
                refine gx_callS C (ct_Mo_labelAt (gx_l K) D dA _ (X := X) (n0 := M.length) (i := t) hX hl1 (by omega)) me_Mo_labelAt ml_Mo_171 ms_Mo_labelAt dd_Mo_weigh_82 (kk := fun v w hq => ?_)
                obtain ⟨rfl, rfl⟩ := hq
                refine gx_goto C 89 dd_Mo_weigh_85 (kk := ?_)
                refine mo_s61 C dd_Mo_weigh_89 (by omega) (kk := fun F89 hF89 => ?_)
                refine gx_aload_n C 1 dd_Mo_weigh_90 (kk := ?_)
                refine mo_get C fd_Mo_66 dd_Mo_weigh_91 (kk := ?_)
                refine gx_iload C 0 dd_Mo_weigh_94 (kk := ?_)
                rcases Nat.lt_or_ge t M2.length with hb | hb
                · refine gx_iload C 0 dd_Mo_weigh_96 (kk := ?_)
                  refine gx_aload_n C 1 dd_Mo_weigh_98 (kk := ?_)
                  refine mo_get C fd_Mo_165 dd_Mo_weigh_99 (kk := ?_)
                  refine gx_topi _ hS24 ?_
                  refine gx_icmp_ge C 118 dd_Mo_weigh_102 (fun h102 => absurd h102 (nI_ge (by omega) (by omega))) (fun h102 => ?_)
                  refine gx_iload_n C 4 dd_Mo_weigh_105 (kk := ?_)
                  refine gx_aload_n C 1 dd_Mo_weigh_106 (kk := ?_)
                  refine mo_get C fd_Mo_165 dd_Mo_weigh_107 (kk := ?_)
                  refine gx_topi _ hS24 ?_
                  refine gx_iload C 0 dd_Mo_weigh_110 (kk := ?_)
                  refine gx_callS C (ct_Mo_labelAt (gx_l K) D dA _ (X := Y) (n0 := M2.length) (i := t) hY hl2 (by omega)) me_Mo_labelAt ml_Mo_171 ms_Mo_labelAt dd_Mo_weigh_112 (kk := fun v w hq => ?_)
                  obtain ⟨rfl, rfl⟩ := hq
                  refine gx_goto C 119 dd_Mo_weigh_115 (kk := ?_)
                  refine mo_s62 C dd_Mo_weigh_119 (by omega) (kk := fun F119 hF119 => ?_)
                  refine gx_iinc C 0 (nI (t + 1)) _ dd_Mo_weigh_120 (nI_1 _) (kk := ?_)
                  refine gx_goto C 53 dd_Mo_weigh_123 (kk := ?_)
                  exact ih (t + 1) F119 (by omega) (fun j hj hjl => by
                    rw [hF119, gm_un (by decide), hF89, gm_us]
                    by_cases hjt : j = t
                    · rw [hjt, pk_us]
                    · rw [pk_un hjt]
                      exact h61 j (by omega) hjl) (fun j hj hjl => by
                    rw [hF119, gm_us, hF89, gm_un (by decide)]
                    by_cases hjt : j = t
                    · rw [hjt, pk_us]
                    · rw [pk_un hjt]
                      exact h62 j (by omega) hjl) (mo_w_tr hw1 (mo_w_tr (mo_w_F (by decide) hF89) (mo_w_F (by decide) hF119)))
                · refine gx_iload C 0 dd_Mo_weigh_96 (kk := ?_)
                  refine gx_aload_n C 1 dd_Mo_weigh_98 (kk := ?_)
                  refine mo_get C fd_Mo_165 dd_Mo_weigh_99 (kk := ?_)
                  refine gx_topi _ hS24 ?_
                  refine gx_icmp_ge C 118 dd_Mo_weigh_102 (fun h102 => ?_) (fun h102 => absurd (nI_le (by omega) (by omega)) h102)
                  refine gx_iconst (v := nI 0) C dd_Mo_weigh_118 (kk := ?_)
                  refine mo_s62 C dd_Mo_weigh_119 (by omega) (kk := fun F119 hF119 => ?_)
                  refine gx_iinc C 0 (nI (t + 1)) _ dd_Mo_weigh_120 (nI_1 _) (kk := ?_)
                  refine gx_goto C 53 dd_Mo_weigh_123 (kk := ?_)
                  exact ih (t + 1) F119 (by omega) (fun j hj hjl => by
                    rw [hF119, gm_un (by decide), hF89, gm_us]
                    by_cases hjt : j = t
                    · rw [hjt, pk_us]
                    · rw [pk_un hjt]
                      exact h61 j (by omega) hjl) (fun j hj hjl => by
                    rw [hF119, gm_us, hF89, gm_un (by decide)]
                    by_cases hjt : j = t
                    · exact absurd hjl (by omega)
                    · rw [pk_un hjt]
                      exact h62 j (by omega) hjl) (mo_w_tr hw1 (mo_w_tr (mo_w_F (by decide) hF89) (mo_w_F (by decide) hF119)))
              · refine gx_iload C 0 dd_Mo_weigh_66 (kk := ?_)
                refine gx_aload_n C 1 dd_Mo_weigh_68 (kk := ?_)
                refine mo_get C fd_Mo_162 dd_Mo_weigh_69 (kk := ?_)
                refine gx_topi _ hS23 ?_
                refine gx_icmp_ge C 88 dd_Mo_weigh_72 (fun h72 => ?_) (fun h72 => absurd (nI_le (by omega) (by omega)) h72)
                refine gx_iconst (v := nI 0) C dd_Mo_weigh_88 (kk := ?_)
                refine mo_s61 C dd_Mo_weigh_89 (by omega) (kk := fun F89 hF89 => ?_)
                refine gx_aload_n C 1 dd_Mo_weigh_90 (kk := ?_)
                refine mo_get C fd_Mo_66 dd_Mo_weigh_91 (kk := ?_)
                refine gx_iload C 0 dd_Mo_weigh_94 (kk := ?_)
                rcases Nat.lt_or_ge t M2.length with hb | hb
                · refine gx_iload C 0 dd_Mo_weigh_96 (kk := ?_)
                  refine gx_aload_n C 1 dd_Mo_weigh_98 (kk := ?_)
                  refine mo_get C fd_Mo_165 dd_Mo_weigh_99 (kk := ?_)
                  refine gx_topi _ hS24 ?_
                  refine gx_icmp_ge C 118 dd_Mo_weigh_102 (fun h102 => absurd h102 (nI_ge (by omega) (by omega))) (fun h102 => ?_)
                  refine gx_iload_n C 4 dd_Mo_weigh_105 (kk := ?_)
                  refine gx_aload_n C 1 dd_Mo_weigh_106 (kk := ?_)
                  refine mo_get C fd_Mo_165 dd_Mo_weigh_107 (kk := ?_)
                  refine gx_topi _ hS24 ?_
                  refine gx_iload C 0 dd_Mo_weigh_110 (kk := ?_)
                  refine gx_callS C (ct_Mo_labelAt (gx_l K) D dA _ (X := Y) (n0 := M2.length) (i := t) hY hl2 (by omega)) me_Mo_labelAt ml_Mo_171 ms_Mo_labelAt dd_Mo_weigh_112 (kk := fun v w hq => ?_)
                  obtain ⟨rfl, rfl⟩ := hq
                  refine gx_goto C 119 dd_Mo_weigh_115 (kk := ?_)
                  refine mo_s62 C dd_Mo_weigh_119 (by omega) (kk := fun F119 hF119 => ?_)
                  refine gx_iinc C 0 (nI (t + 1)) _ dd_Mo_weigh_120 (nI_1 _) (kk := ?_)
                  refine gx_goto C 53 dd_Mo_weigh_123 (kk := ?_)
                  exact ih (t + 1) F119 (by omega) (fun j hj hjl => by
                    rw [hF119, gm_un (by decide), hF89, gm_us]
                    by_cases hjt : j = t
                    · exact absurd hjl (by omega)
                    · rw [pk_un hjt]
                      exact h61 j (by omega) hjl) (fun j hj hjl => by
                    rw [hF119, gm_us, hF89, gm_un (by decide)]
                    by_cases hjt : j = t
                    · rw [hjt, pk_us]
                    · rw [pk_un hjt]
                      exact h62 j (by omega) hjl) (mo_w_tr hw1 (mo_w_tr (mo_w_F (by decide) hF89) (mo_w_F (by decide) hF119)))
                · refine gx_iload C 0 dd_Mo_weigh_96 (kk := ?_)
                  refine gx_aload_n C 1 dd_Mo_weigh_98 (kk := ?_)
                  refine mo_get C fd_Mo_165 dd_Mo_weigh_99 (kk := ?_)
                  refine gx_topi _ hS24 ?_
                  refine gx_icmp_ge C 118 dd_Mo_weigh_102 (fun h102 => ?_) (fun h102 => absurd (nI_le (by omega) (by omega)) h102)
                  refine gx_iconst (v := nI 0) C dd_Mo_weigh_118 (kk := ?_)
                  refine mo_s62 C dd_Mo_weigh_119 (by omega) (kk := fun F119 hF119 => ?_)
                  refine gx_iinc C 0 (nI (t + 1)) _ dd_Mo_weigh_120 (nI_1 _) (kk := ?_)
                  refine gx_goto C 53 dd_Mo_weigh_123 (kk := ?_)
                  exact ih (t + 1) F119 (by omega) (fun j hj hjl => by
                    rw [hF119, gm_un (by decide), hF89, gm_us]
                    by_cases hjt : j = t
                    · exact absurd hjl (by omega)
                    · rw [pk_un hjt]
                      exact h61 j (by omega) hjl) (fun j hj hjl => by
                    rw [hF119, gm_us, hF89, gm_un (by decide)]
                    by_cases hjt : j = t
                    · exact absurd hjl (by omega)
                    · rw [pk_un hjt]
                      exact h62 j (by omega) hjl) (mo_w_tr hw1 (mo_w_tr (mo_w_F (by decide) hF89) (mo_w_F (by decide) hF119)))
          exact rows 8 0 F rfl (fun j hj => absurd hj (Nat.not_lt_zero _)) (fun j hj => absurd hj (Nat.not_lt_zero _)) mo_w_rf
