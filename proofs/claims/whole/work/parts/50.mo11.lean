theorem dd_Mo_follow_0 : decode cc_Mo_follow 0 = .ok (.ldc2_w 129, 3) := by decide +kernel
theorem dd_Mo_follow_3 : decode cc_Mo_follow 3 = .ok (.lstore 4, 2) := by decide +kernel
theorem dd_Mo_follow_5 : decode cc_Mo_follow 5 = .ok (.iconst 0, 1) := by decide +kernel
theorem dd_Mo_follow_6 : decode cc_Mo_follow 6 = .ok (.istore 6, 2) := by decide +kernel
theorem dd_Mo_follow_8 : decode cc_Mo_follow 8 = .ok (.iload 6, 2) := by decide +kernel
theorem dd_Mo_follow_10 : decode cc_Mo_follow 10 = .ok (.bipush 16, 2) := by decide +kernel
theorem dd_Mo_follow_12 : decode cc_Mo_follow 12 = .ok (.if_icmp .ge 27, 3) := by decide +kernel
theorem dd_Mo_follow_15 : decode cc_Mo_follow 15 = .ok (.aload_n 0, 1) := by decide +kernel
theorem dd_Mo_follow_16 : decode cc_Mo_follow 16 = .ok (.getfield 72, 3) := by decide +kernel
theorem dd_Mo_follow_19 : decode cc_Mo_follow 19 = .ok (.bipush 16, 2) := by decide +kernel
theorem dd_Mo_follow_21 : decode cc_Mo_follow 21 = .ok (.aload_n 0, 1) := by decide +kernel
theorem dd_Mo_follow_22 : decode cc_Mo_follow 22 = .ok (.getfield 103, 3) := by decide +kernel
theorem dd_Mo_follow_25 : decode cc_Mo_follow 25 = .ok (.imul, 1) := by decide +kernel
theorem dd_Mo_follow_26 : decode cc_Mo_follow 26 = .ok (.iload 6, 2) := by decide +kernel
theorem dd_Mo_follow_28 : decode cc_Mo_follow 28 = .ok (.iadd, 1) := by decide +kernel
theorem dd_Mo_follow_29 : decode cc_Mo_follow 29 = .ok (.ldc2_w 79, 3) := by decide +kernel
theorem dd_Mo_follow_32 : decode cc_Mo_follow 32 = .ok (.lastore, 1) := by decide +kernel
theorem dd_Mo_follow_33 : decode cc_Mo_follow 33 = .ok (.iinc 6 1, 3) := by decide +kernel
theorem dd_Mo_follow_36 : decode cc_Mo_follow 36 = .ok (.goto (-28), 3) := by decide +kernel
theorem dd_Mo_follow_39 : decode cc_Mo_follow 39 = .ok (.bipush 65, 2) := by decide +kernel
theorem dd_Mo_follow_41 : decode cc_Mo_follow 41 = .ok (.iload_n 1, 1) := by decide +kernel
theorem dd_Mo_follow_42 : decode cc_Mo_follow 42 = .ok (.imul, 1) := by decide +kernel
theorem dd_Mo_follow_43 : decode cc_Mo_follow 43 = .ok (.istore 6, 2) := by decide +kernel
theorem dd_Mo_follow_45 : decode cc_Mo_follow 45 = .ok (.iload 6, 2) := by decide +kernel
theorem dd_Mo_follow_47 : decode cc_Mo_follow 47 = .ok (.bipush 65, 2) := by decide +kernel
theorem dd_Mo_follow_49 : decode cc_Mo_follow 49 = .ok (.iload_n 1, 1) := by decide +kernel
theorem dd_Mo_follow_50 : decode cc_Mo_follow 50 = .ok (.imul, 1) := by decide +kernel
theorem dd_Mo_follow_51 : decode cc_Mo_follow 51 = .ok (.aload_n 0, 1) := by decide +kernel
theorem dd_Mo_follow_52 : decode cc_Mo_follow 52 = .ok (.getfield 23, 3) := by decide +kernel
theorem dd_Mo_follow_55 : decode cc_Mo_follow 55 = .ok (.iload_n 1, 1) := by decide +kernel
theorem dd_Mo_follow_56 : decode cc_Mo_follow 56 = .ok (.iaload, 1) := by decide +kernel
theorem dd_Mo_follow_57 : decode cc_Mo_follow 57 = .ok (.iadd, 1) := by decide +kernel
theorem dd_Mo_follow_58 : decode cc_Mo_follow 58 = .ok (.if_icmp .ge 136, 3) := by decide +kernel
theorem dd_Mo_follow_61 : decode cc_Mo_follow 61 = .ok (.aload_n 0, 1) := by decide +kernel
theorem dd_Mo_follow_62 : decode cc_Mo_follow 62 = .ok (.getfield 72, 3) := by decide +kernel
theorem dd_Mo_follow_65 : decode cc_Mo_follow 65 = .ok (.bipush 16, 2) := by decide +kernel
theorem dd_Mo_follow_67 : decode cc_Mo_follow 67 = .ok (.iload_n 2, 1) := by decide +kernel
theorem dd_Mo_follow_68 : decode cc_Mo_follow 68 = .ok (.imul, 1) := by decide +kernel
theorem dd_Mo_follow_69 : decode cc_Mo_follow 69 = .ok (.aload_n 0, 1) := by decide +kernel
theorem dd_Mo_follow_70 : decode cc_Mo_follow 70 = .ok (.getfield 26, 3) := by decide +kernel
theorem dd_Mo_follow_73 : decode cc_Mo_follow 73 = .ok (.iload 6, 2) := by decide +kernel
theorem dd_Mo_follow_75 : decode cc_Mo_follow 75 = .ok (.iaload, 1) := by decide +kernel
theorem dd_Mo_follow_76 : decode cc_Mo_follow 76 = .ok (.iadd, 1) := by decide +kernel
theorem dd_Mo_follow_77 : decode cc_Mo_follow 77 = .ok (.laload, 1) := by decide +kernel
theorem dd_Mo_follow_78 : decode cc_Mo_follow 78 = .ok (.lstore 7, 2) := by decide +kernel
theorem dd_Mo_follow_80 : decode cc_Mo_follow 80 = .ok (.aload_n 0, 1) := by decide +kernel
theorem dd_Mo_follow_81 : decode cc_Mo_follow 81 = .ok (.getfield 32, 3) := by decide +kernel
theorem dd_Mo_follow_84 : decode cc_Mo_follow 84 = .ok (.iload 6, 2) := by decide +kernel
theorem dd_Mo_follow_86 : decode cc_Mo_follow 86 = .ok (.iaload, 1) := by decide +kernel
theorem dd_Mo_follow_87 : decode cc_Mo_follow 87 = .ok (.iload_n 3, 1) := by decide +kernel
theorem dd_Mo_follow_88 : decode cc_Mo_follow 88 = .ok (.if_icmp .ne 100, 3) := by decide +kernel
theorem dd_Mo_follow_91 : decode cc_Mo_follow 91 = .ok (.lload 7, 2) := by decide +kernel
theorem dd_Mo_follow_93 : decode cc_Mo_follow 93 = .ok (.lconst 0, 1) := by decide +kernel
theorem dd_Mo_follow_94 : decode cc_Mo_follow 94 = .ok (.lcmp, 1) := by decide +kernel
theorem dd_Mo_follow_95 : decode cc_Mo_follow 95 = .ok (.ifCond .lt 93, 3) := by decide +kernel
theorem dd_Mo_follow_98 : decode cc_Mo_follow 98 = .ok (.lload 7, 2) := by decide +kernel
theorem dd_Mo_follow_100 : decode cc_Mo_follow 100 = .ok (.aload_n 0, 1) := by decide +kernel
theorem dd_Mo_follow_101 : decode cc_Mo_follow 101 = .ok (.getfield 38, 3) := by decide +kernel
theorem dd_Mo_follow_104 : decode cc_Mo_follow 104 = .ok (.iload 6, 2) := by decide +kernel
theorem dd_Mo_follow_106 : decode cc_Mo_follow 106 = .ok (.laload, 1) := by decide +kernel
theorem dd_Mo_follow_107 : decode cc_Mo_follow 107 = .ok (.ladd, 1) := by decide +kernel
theorem dd_Mo_follow_108 : decode cc_Mo_follow 108 = .ok (.lstore 9, 2) := by decide +kernel
theorem dd_Mo_follow_110 : decode cc_Mo_follow 110 = .ok (.bipush 16, 2) := by decide +kernel
theorem dd_Mo_follow_112 : decode cc_Mo_follow 112 = .ok (.aload_n 0, 1) := by decide +kernel
theorem dd_Mo_follow_113 : decode cc_Mo_follow 113 = .ok (.getfield 103, 3) := by decide +kernel
theorem dd_Mo_follow_116 : decode cc_Mo_follow 116 = .ok (.imul, 1) := by decide +kernel
theorem dd_Mo_follow_117 : decode cc_Mo_follow 117 = .ok (.aload_n 0, 1) := by decide +kernel
theorem dd_Mo_follow_118 : decode cc_Mo_follow 118 = .ok (.getfield 29, 3) := by decide +kernel
theorem dd_Mo_follow_121 : decode cc_Mo_follow 121 = .ok (.iload 6, 2) := by decide +kernel
theorem dd_Mo_follow_123 : decode cc_Mo_follow 123 = .ok (.iaload, 1) := by decide +kernel
theorem dd_Mo_follow_124 : decode cc_Mo_follow 124 = .ok (.iadd, 1) := by decide +kernel
theorem dd_Mo_follow_125 : decode cc_Mo_follow 125 = .ok (.istore 11, 2) := by decide +kernel
theorem dd_Mo_follow_127 : decode cc_Mo_follow 127 = .ok (.aload_n 0, 1) := by decide +kernel
theorem dd_Mo_follow_128 : decode cc_Mo_follow 128 = .ok (.getfield 72, 3) := by decide +kernel
theorem dd_Mo_follow_131 : decode cc_Mo_follow 131 = .ok (.iload 11, 2) := by decide +kernel
theorem dd_Mo_follow_133 : decode cc_Mo_follow 133 = .ok (.aload_n 0, 1) := by decide +kernel
theorem dd_Mo_follow_134 : decode cc_Mo_follow 134 = .ok (.getfield 72, 3) := by decide +kernel
theorem dd_Mo_follow_137 : decode cc_Mo_follow 137 = .ok (.iload 11, 2) := by decide +kernel
theorem dd_Mo_follow_139 : decode cc_Mo_follow 139 = .ok (.laload, 1) := by decide +kernel
theorem dd_Mo_follow_140 : decode cc_Mo_follow 140 = .ok (.lconst 0, 1) := by decide +kernel
theorem dd_Mo_follow_141 : decode cc_Mo_follow 141 = .ok (.lcmp, 1) := by decide +kernel
theorem dd_Mo_follow_142 : decode cc_Mo_follow 142 = .ok (.ifCond .lt 16, 3) := by decide +kernel
theorem dd_Mo_follow_145 : decode cc_Mo_follow 145 = .ok (.lload 9, 2) := by decide +kernel
theorem dd_Mo_follow_147 : decode cc_Mo_follow 147 = .ok (.aload_n 0, 1) := by decide +kernel
theorem dd_Mo_follow_148 : decode cc_Mo_follow 148 = .ok (.getfield 72, 3) := by decide +kernel
theorem dd_Mo_follow_151 : decode cc_Mo_follow 151 = .ok (.iload 11, 2) := by decide +kernel
theorem dd_Mo_follow_153 : decode cc_Mo_follow 153 = .ok (.laload, 1) := by decide +kernel
theorem dd_Mo_follow_154 : decode cc_Mo_follow 154 = .ok (.lcmp, 1) := by decide +kernel
theorem dd_Mo_follow_155 : decode cc_Mo_follow 155 = .ok (.ifCond .ge 8, 3) := by decide +kernel
theorem dd_Mo_follow_158 : decode cc_Mo_follow 158 = .ok (.lload 9, 2) := by decide +kernel
theorem dd_Mo_follow_160 : decode cc_Mo_follow 160 = .ok (.goto 10, 3) := by decide +kernel
theorem dd_Mo_follow_163 : decode cc_Mo_follow 163 = .ok (.aload_n 0, 1) := by decide +kernel
theorem dd_Mo_follow_164 : decode cc_Mo_follow 164 = .ok (.getfield 72, 3) := by decide +kernel
theorem dd_Mo_follow_167 : decode cc_Mo_follow 167 = .ok (.iload 11, 2) := by decide +kernel
theorem dd_Mo_follow_169 : decode cc_Mo_follow 169 = .ok (.laload, 1) := by decide +kernel
theorem dd_Mo_follow_170 : decode cc_Mo_follow 170 = .ok (.lastore, 1) := by decide +kernel
theorem dd_Mo_follow_171 : decode cc_Mo_follow 171 = .ok (.lload 9, 2) := by decide +kernel
theorem dd_Mo_follow_173 : decode cc_Mo_follow 173 = .ok (.lload 4, 2) := by decide +kernel
theorem dd_Mo_follow_175 : decode cc_Mo_follow 175 = .ok (.lcmp, 1) := by decide +kernel
theorem dd_Mo_follow_176 : decode cc_Mo_follow 176 = .ok (.ifCond .ge 8, 3) := by decide +kernel
theorem dd_Mo_follow_179 : decode cc_Mo_follow 179 = .ok (.lload 9, 2) := by decide +kernel
theorem dd_Mo_follow_181 : decode cc_Mo_follow 181 = .ok (.goto 5, 3) := by decide +kernel
theorem dd_Mo_follow_184 : decode cc_Mo_follow 184 = .ok (.lload 4, 2) := by decide +kernel
theorem dd_Mo_follow_186 : decode cc_Mo_follow 186 = .ok (.lstore 4, 2) := by decide +kernel
theorem dd_Mo_follow_188 : decode cc_Mo_follow 188 = .ok (.iinc 6 1, 3) := by decide +kernel
theorem dd_Mo_follow_191 : decode cc_Mo_follow 191 = .ok (.goto (-146), 3) := by decide +kernel
theorem dd_Mo_follow_194 : decode cc_Mo_follow 194 = .ok (.bipush 16, 2) := by decide +kernel
theorem dd_Mo_follow_196 : decode cc_Mo_follow 196 = .ok (.aload_n 0, 1) := by decide +kernel
theorem dd_Mo_follow_197 : decode cc_Mo_follow 197 = .ok (.getfield 103, 3) := by decide +kernel
theorem dd_Mo_follow_200 : decode cc_Mo_follow 200 = .ok (.imul, 1) := by decide +kernel
theorem dd_Mo_follow_201 : decode cc_Mo_follow 201 = .ok (.istore 6, 2) := by decide +kernel
theorem dd_Mo_follow_203 : decode cc_Mo_follow 203 = .ok (.iload 6, 2) := by decide +kernel
theorem dd_Mo_follow_205 : decode cc_Mo_follow 205 = .ok (.bipush 16, 2) := by decide +kernel
theorem dd_Mo_follow_207 : decode cc_Mo_follow 207 = .ok (.aload_n 0, 1) := by decide +kernel
theorem dd_Mo_follow_208 : decode cc_Mo_follow 208 = .ok (.getfield 103, 3) := by decide +kernel
theorem dd_Mo_follow_211 : decode cc_Mo_follow 211 = .ok (.imul, 1) := by decide +kernel
theorem dd_Mo_follow_212 : decode cc_Mo_follow 212 = .ok (.bipush 16, 2) := by decide +kernel
theorem dd_Mo_follow_214 : decode cc_Mo_follow 214 = .ok (.iadd, 1) := by decide +kernel
theorem dd_Mo_follow_215 : decode cc_Mo_follow 215 = .ok (.if_icmp .ge 44, 3) := by decide +kernel
theorem dd_Mo_follow_218 : decode cc_Mo_follow 218 = .ok (.aload_n 0, 1) := by decide +kernel
theorem dd_Mo_follow_219 : decode cc_Mo_follow 219 = .ok (.getfield 72, 3) := by decide +kernel
theorem dd_Mo_follow_222 : decode cc_Mo_follow 222 = .ok (.iload 6, 2) := by decide +kernel
theorem dd_Mo_follow_224 : decode cc_Mo_follow 224 = .ok (.aload_n 0, 1) := by decide +kernel
theorem dd_Mo_follow_225 : decode cc_Mo_follow 225 = .ok (.getfield 72, 3) := by decide +kernel
theorem dd_Mo_follow_228 : decode cc_Mo_follow 228 = .ok (.iload 6, 2) := by decide +kernel
theorem dd_Mo_follow_230 : decode cc_Mo_follow 230 = .ok (.laload, 1) := by decide +kernel
theorem dd_Mo_follow_231 : decode cc_Mo_follow 231 = .ok (.lconst 0, 1) := by decide +kernel
theorem dd_Mo_follow_232 : decode cc_Mo_follow 232 = .ok (.lcmp, 1) := by decide +kernel
theorem dd_Mo_follow_233 : decode cc_Mo_follow 233 = .ok (.ifCond .ge 9, 3) := by decide +kernel
theorem dd_Mo_follow_236 : decode cc_Mo_follow 236 = .ok (.ldc2_w 79, 3) := by decide +kernel
theorem dd_Mo_follow_239 : decode cc_Mo_follow 239 = .ok (.goto 13, 3) := by decide +kernel
theorem dd_Mo_follow_242 : decode cc_Mo_follow 242 = .ok (.aload_n 0, 1) := by decide +kernel
theorem dd_Mo_follow_243 : decode cc_Mo_follow 243 = .ok (.getfield 72, 3) := by decide +kernel
theorem dd_Mo_follow_246 : decode cc_Mo_follow 246 = .ok (.iload 6, 2) := by decide +kernel
theorem dd_Mo_follow_248 : decode cc_Mo_follow 248 = .ok (.laload, 1) := by decide +kernel
theorem dd_Mo_follow_249 : decode cc_Mo_follow 249 = .ok (.lload 4, 2) := by decide +kernel
theorem dd_Mo_follow_251 : decode cc_Mo_follow 251 = .ok (.lsub, 1) := by decide +kernel
theorem dd_Mo_follow_252 : decode cc_Mo_follow 252 = .ok (.lastore, 1) := by decide +kernel
theorem dd_Mo_follow_253 : decode cc_Mo_follow 253 = .ok (.iinc 6 1, 3) := by decide +kernel
theorem dd_Mo_follow_256 : decode cc_Mo_follow 256 = .ok (.goto (-53), 3) := by decide +kernel
theorem dd_Mo_follow_259 : decode cc_Mo_follow 259 = .ok (.lload 4, 2) := by decide +kernel
theorem dd_Mo_follow_261 : decode cc_Mo_follow 261 = .ok (.ldc2_w 129, 3) := by decide +kernel
theorem dd_Mo_follow_264 : decode cc_Mo_follow 264 = .ok (.lcmp, 1) := by decide +kernel
theorem dd_Mo_follow_265 : decode cc_Mo_follow 265 = .ok (.ifCond .ge 8, 3) := by decide +kernel
theorem dd_Mo_follow_268 : decode cc_Mo_follow 268 = .ok (.lload 4, 2) := by decide +kernel
theorem dd_Mo_follow_270 : decode cc_Mo_follow 270 = .ok (.goto 6, 3) := by decide +kernel
theorem dd_Mo_follow_273 : decode cc_Mo_follow 273 = .ok (.ldc2_w 79, 3) := by decide +kernel
theorem dd_Mo_follow_276 : decode cc_Mo_follow 276 = .ok (.lreturn, 1) := by decide +kernel
theorem dd_Mo_settle_0 : decode cc_Mo_settle 0 = .ok (.iconst 0, 1) := by decide +kernel
theorem dd_Mo_settle_1 : decode cc_Mo_settle 1 = .ok (.istore_n 1, 1) := by decide +kernel
theorem dd_Mo_settle_2 : decode cc_Mo_settle 2 = .ok (.iload_n 1, 1) := by decide +kernel
theorem dd_Mo_settle_3 : decode cc_Mo_settle 3 = .ok (.aload_n 0, 1) := by decide +kernel
theorem dd_Mo_settle_4 : decode cc_Mo_settle 4 = .ok (.getfield 103, 3) := by decide +kernel
theorem dd_Mo_settle_7 : decode cc_Mo_settle 7 = .ok (.if_icmp .ge 70, 3) := by decide +kernel
theorem dd_Mo_settle_10 : decode cc_Mo_settle 10 = .ok (.iconst 1, 1) := by decide +kernel
theorem dd_Mo_settle_11 : decode cc_Mo_settle 11 = .ok (.istore_n 2, 1) := by decide +kernel
theorem dd_Mo_settle_12 : decode cc_Mo_settle 12 = .ok (.iconst 0, 1) := by decide +kernel
theorem dd_Mo_settle_13 : decode cc_Mo_settle 13 = .ok (.istore_n 3, 1) := by decide +kernel
theorem dd_Mo_settle_14 : decode cc_Mo_settle 14 = .ok (.iload_n 3, 1) := by decide +kernel
theorem dd_Mo_settle_15 : decode cc_Mo_settle 15 = .ok (.bipush 16, 2) := by decide +kernel
theorem dd_Mo_settle_17 : decode cc_Mo_settle 17 = .ok (.if_icmp .ge 48, 3) := by decide +kernel
theorem dd_Mo_settle_20 : decode cc_Mo_settle 20 = .ok (.iload_n 2, 1) := by decide +kernel
theorem dd_Mo_settle_21 : decode cc_Mo_settle 21 = .ok (.ifCond .eq 36, 3) := by decide +kernel
theorem dd_Mo_settle_24 : decode cc_Mo_settle 24 = .ok (.aload_n 0, 1) := by decide +kernel
theorem dd_Mo_settle_25 : decode cc_Mo_settle 25 = .ok (.getfield 72, 3) := by decide +kernel
theorem dd_Mo_settle_28 : decode cc_Mo_settle 28 = .ok (.bipush 16, 2) := by decide +kernel
theorem dd_Mo_settle_30 : decode cc_Mo_settle 30 = .ok (.iload_n 1, 1) := by decide +kernel
theorem dd_Mo_settle_31 : decode cc_Mo_settle 31 = .ok (.imul, 1) := by decide +kernel
theorem dd_Mo_settle_32 : decode cc_Mo_settle 32 = .ok (.iload_n 3, 1) := by decide +kernel
theorem dd_Mo_settle_33 : decode cc_Mo_settle 33 = .ok (.iadd, 1) := by decide +kernel
theorem dd_Mo_settle_34 : decode cc_Mo_settle 34 = .ok (.laload, 1) := by decide +kernel
theorem dd_Mo_settle_35 : decode cc_Mo_settle 35 = .ok (.aload_n 0, 1) := by decide +kernel
theorem dd_Mo_settle_36 : decode cc_Mo_settle 36 = .ok (.getfield 72, 3) := by decide +kernel
theorem dd_Mo_settle_39 : decode cc_Mo_settle 39 = .ok (.bipush 16, 2) := by decide +kernel
theorem dd_Mo_settle_41 : decode cc_Mo_settle 41 = .ok (.aload_n 0, 1) := by decide +kernel
theorem dd_Mo_settle_42 : decode cc_Mo_settle 42 = .ok (.getfield 103, 3) := by decide +kernel
theorem dd_Mo_settle_45 : decode cc_Mo_settle 45 = .ok (.imul, 1) := by decide +kernel
theorem dd_Mo_settle_46 : decode cc_Mo_settle 46 = .ok (.iload_n 3, 1) := by decide +kernel
theorem dd_Mo_settle_47 : decode cc_Mo_settle 47 = .ok (.iadd, 1) := by decide +kernel
theorem dd_Mo_settle_48 : decode cc_Mo_settle 48 = .ok (.laload, 1) := by decide +kernel
theorem dd_Mo_settle_49 : decode cc_Mo_settle 49 = .ok (.lcmp, 1) := by decide +kernel
theorem dd_Mo_settle_50 : decode cc_Mo_settle 50 = .ok (.ifCond .ne 7, 3) := by decide +kernel
theorem dd_Mo_settle_53 : decode cc_Mo_settle 53 = .ok (.iconst 1, 1) := by decide +kernel
theorem dd_Mo_settle_54 : decode cc_Mo_settle 54 = .ok (.goto 4, 3) := by decide +kernel
theorem dd_Mo_settle_57 : decode cc_Mo_settle 57 = .ok (.iconst 0, 1) := by decide +kernel
theorem dd_Mo_settle_58 : decode cc_Mo_settle 58 = .ok (.istore_n 2, 1) := by decide +kernel
theorem dd_Mo_settle_59 : decode cc_Mo_settle 59 = .ok (.iinc 3 1, 3) := by decide +kernel
theorem dd_Mo_settle_62 : decode cc_Mo_settle 62 = .ok (.goto (-48), 3) := by decide +kernel
theorem dd_Mo_settle_65 : decode cc_Mo_settle 65 = .ok (.iload_n 2, 1) := by decide +kernel
theorem dd_Mo_settle_66 : decode cc_Mo_settle 66 = .ok (.ifCond .eq 5, 3) := by decide +kernel
theorem dd_Mo_settle_69 : decode cc_Mo_settle 69 = .ok (.iload_n 1, 1) := by decide +kernel
theorem dd_Mo_settle_70 : decode cc_Mo_settle 70 = .ok (.ireturn, 1) := by decide +kernel
theorem dd_Mo_settle_71 : decode cc_Mo_settle 71 = .ok (.iinc 1 1, 3) := by decide +kernel
theorem dd_Mo_settle_74 : decode cc_Mo_settle 74 = .ok (.goto (-72), 3) := by decide +kernel
theorem dd_Mo_settle_77 : decode cc_Mo_settle 77 = .ok (.aload_n 0, 1) := by decide +kernel
theorem dd_Mo_settle_78 : decode cc_Mo_settle 78 = .ok (.getfield 103, 3) := by decide +kernel
theorem dd_Mo_settle_81 : decode cc_Mo_settle 81 = .ok (.bipush 16, 2) := by decide +kernel
theorem dd_Mo_settle_83 : decode cc_Mo_settle 83 = .ok (.if_icmp .ne 5, 3) := by decide +kernel
theorem dd_Mo_settle_86 : decode cc_Mo_settle 86 = .ok (.iconst (-1), 1) := by decide +kernel
theorem dd_Mo_settle_87 : decode cc_Mo_settle 87 = .ok (.ireturn, 1) := by decide +kernel
theorem dd_Mo_settle_88 : decode cc_Mo_settle 88 = .ok (.aload_n 0, 1) := by decide +kernel
theorem dd_Mo_settle_89 : decode cc_Mo_settle 89 = .ok (.dup, 1) := by decide +kernel
theorem dd_Mo_settle_90 : decode cc_Mo_settle 90 = .ok (.getfield 103, 3) := by decide +kernel
theorem dd_Mo_settle_93 : decode cc_Mo_settle 93 = .ok (.iconst 1, 1) := by decide +kernel
theorem dd_Mo_settle_94 : decode cc_Mo_settle 94 = .ok (.iadd, 1) := by decide +kernel
theorem dd_Mo_settle_95 : decode cc_Mo_settle 95 = .ok (.putfield 103, 3) := by decide +kernel
theorem dd_Mo_settle_98 : decode cc_Mo_settle 98 = .ok (.aload_n 0, 1) := by decide +kernel
theorem dd_Mo_settle_99 : decode cc_Mo_settle 99 = .ok (.getfield 103, 3) := by decide +kernel
theorem dd_Mo_settle_102 : decode cc_Mo_settle 102 = .ok (.iconst 1, 1) := by decide +kernel
theorem dd_Mo_settle_103 : decode cc_Mo_settle 103 = .ok (.isub, 1) := by decide +kernel
theorem dd_Mo_settle_104 : decode cc_Mo_settle 104 = .ok (.ireturn, 1) := by decide +kernel
theorem dd_Mo_gather_0 : decode cc_Mo_gather 0 = .ok (.iconst 0, 1) := by decide +kernel
theorem dd_Mo_gather_1 : decode cc_Mo_gather 1 = .ok (.istore_n 2, 1) := by decide +kernel
theorem dd_Mo_gather_2 : decode cc_Mo_gather 2 = .ok (.iload_n 2, 1) := by decide +kernel
theorem dd_Mo_gather_3 : decode cc_Mo_gather 3 = .ok (.aload_n 0, 1) := by decide +kernel
theorem dd_Mo_gather_4 : decode cc_Mo_gather 4 = .ok (.getfield 103, 3) := by decide +kernel
theorem dd_Mo_gather_7 : decode cc_Mo_gather 7 = .ok (.if_icmp .ge 78, 3) := by decide +kernel
theorem dd_Mo_gather_10 : decode cc_Mo_gather 10 = .ok (.iconst 1, 1) := by decide +kernel
theorem dd_Mo_gather_11 : decode cc_Mo_gather 11 = .ok (.istore_n 3, 1) := by decide +kernel
theorem dd_Mo_gather_12 : decode cc_Mo_gather 12 = .ok (.iload_n 3, 1) := by decide +kernel
theorem dd_Mo_gather_13 : decode cc_Mo_gather 13 = .ok (.bipush 8, 2) := by decide +kernel
theorem dd_Mo_gather_15 : decode cc_Mo_gather 15 = .ok (.if_icmp .ge 64, 3) := by decide +kernel
theorem dd_Mo_gather_18 : decode cc_Mo_gather 18 = .ok (.aload_n 0, 1) := by decide +kernel
theorem dd_Mo_gather_19 : decode cc_Mo_gather 19 = .ok (.iload_n 1, 1) := by decide +kernel
theorem dd_Mo_gather_20 : decode cc_Mo_gather 20 = .ok (.iload_n 2, 1) := by decide +kernel
theorem dd_Mo_gather_21 : decode cc_Mo_gather 21 = .ok (.iload_n 3, 1) := by decide +kernel
theorem dd_Mo_gather_22 : decode cc_Mo_gather 22 = .ok (.invokevirtual 134, 3) := by decide +kernel
theorem dd_Mo_gather_25 : decode cc_Mo_gather 25 = .ok (.lstore 4, 2) := by decide +kernel
theorem dd_Mo_gather_27 : decode cc_Mo_gather 27 = .ok (.lload 4, 2) := by decide +kernel
theorem dd_Mo_gather_29 : decode cc_Mo_gather 29 = .ok (.lconst 0, 1) := by decide +kernel
theorem dd_Mo_gather_30 : decode cc_Mo_gather 30 = .ok (.lcmp, 1) := by decide +kernel
theorem dd_Mo_gather_31 : decode cc_Mo_gather 31 = .ok (.ifCond .ge 7, 3) := by decide +kernel
theorem dd_Mo_gather_34 : decode cc_Mo_gather 34 = .ok (.iconst (-1), 1) := by decide +kernel
theorem dd_Mo_gather_35 : decode cc_Mo_gather 35 = .ok (.goto 7, 3) := by decide +kernel
theorem dd_Mo_gather_38 : decode cc_Mo_gather 38 = .ok (.aload_n 0, 1) := by decide +kernel
theorem dd_Mo_gather_39 : decode cc_Mo_gather 39 = .ok (.invokevirtual 138, 3) := by decide +kernel
theorem dd_Mo_gather_42 : decode cc_Mo_gather 42 = .ok (.istore 6, 2) := by decide +kernel
theorem dd_Mo_gather_44 : decode cc_Mo_gather 44 = .ok (.lload 4, 2) := by decide +kernel
theorem dd_Mo_gather_46 : decode cc_Mo_gather 46 = .ok (.lconst 0, 1) := by decide +kernel
theorem dd_Mo_gather_47 : decode cc_Mo_gather 47 = .ok (.lcmp, 1) := by decide +kernel
theorem dd_Mo_gather_48 : decode cc_Mo_gather 48 = .ok (.ifCond .lt 25, 3) := by decide +kernel
theorem dd_Mo_gather_51 : decode cc_Mo_gather 51 = .ok (.iload 6, 2) := by decide +kernel
theorem dd_Mo_gather_53 : decode cc_Mo_gather 53 = .ok (.ifCond .lt 18, 3) := by decide +kernel
theorem dd_Mo_gather_56 : decode cc_Mo_gather 56 = .ok (.aload_n 0, 1) := by decide +kernel
theorem dd_Mo_gather_57 : decode cc_Mo_gather 57 = .ok (.iconst 4, 1) := by decide +kernel
theorem dd_Mo_gather_58 : decode cc_Mo_gather 58 = .ok (.iload_n 2, 1) := by decide +kernel
theorem dd_Mo_gather_59 : decode cc_Mo_gather 59 = .ok (.iload 6, 2) := by decide +kernel
theorem dd_Mo_gather_61 : decode cc_Mo_gather 61 = .ok (.iload_n 3, 1) := by decide +kernel
theorem dd_Mo_gather_62 : decode cc_Mo_gather 62 = .ok (.iload_n 3, 1) := by decide +kernel
theorem dd_Mo_gather_63 : decode cc_Mo_gather 63 = .ok (.lload 4, 2) := by decide +kernel
theorem dd_Mo_gather_65 : decode cc_Mo_gather 65 = .ok (.invokevirtual 99, 3) := by decide +kernel
theorem dd_Mo_gather_68 : decode cc_Mo_gather 68 = .ok (.ifCond .ne 5, 3) := by decide +kernel
theorem dd_Mo_gather_71 : decode cc_Mo_gather 71 = .ok (.iconst 0, 1) := by decide +kernel
theorem dd_Mo_gather_72 : decode cc_Mo_gather 72 = .ok (.ireturn, 1) := by decide +kernel
theorem dd_Mo_gather_73 : decode cc_Mo_gather 73 = .ok (.iinc 3 1, 3) := by decide +kernel
theorem dd_Mo_gather_76 : decode cc_Mo_gather 76 = .ok (.goto (-64), 3) := by decide +kernel
theorem dd_Mo_gather_79 : decode cc_Mo_gather 79 = .ok (.iinc 2 1, 3) := by decide +kernel
theorem dd_Mo_gather_82 : decode cc_Mo_gather 82 = .ok (.goto (-80), 3) := by decide +kernel
theorem dd_Mo_gather_85 : decode cc_Mo_gather 85 = .ok (.iconst 1, 1) := by decide +kernel
theorem dd_Mo_gather_86 : decode cc_Mo_gather 86 = .ok (.ireturn, 1) := by decide +kernel
theorem dd_Mo_determine_0 : decode cc_Mo_determine 0 = .ok (.iload_n 1, 1) := by decide +kernel
theorem dd_Mo_determine_1 : decode cc_Mo_determine 1 = .ok (.invokestatic 81, 3) := by decide +kernel
theorem dd_Mo_determine_4 : decode cc_Mo_determine 4 = .ok (.ifCond .eq 10, 3) := by decide +kernel
theorem dd_Mo_determine_7 : decode cc_Mo_determine 7 = .ok (.iload_n 2, 1) := by decide +kernel
theorem dd_Mo_determine_8 : decode cc_Mo_determine 8 = .ok (.invokestatic 81, 3) := by decide +kernel
theorem dd_Mo_determine_11 : decode cc_Mo_determine 11 = .ok (.ifCond .ne 5, 3) := by decide +kernel
theorem dd_Mo_determine_14 : decode cc_Mo_determine 14 = .ok (.iconst (-1), 1) := by decide +kernel
theorem dd_Mo_determine_15 : decode cc_Mo_determine 15 = .ok (.ireturn, 1) := by decide +kernel
theorem dd_Mo_determine_16 : decode cc_Mo_determine 16 = .ok (.aload_n 0, 1) := by decide +kernel
theorem dd_Mo_determine_17 : decode cc_Mo_determine 17 = .ok (.iload_n 1, 1) := by decide +kernel
theorem dd_Mo_determine_18 : decode cc_Mo_determine 18 = .ok (.invokevirtual 142, 3) := by decide +kernel
theorem dd_Mo_determine_21 : decode cc_Mo_determine 21 = .ok (.ifCond .ne 6, 3) := by decide +kernel
theorem dd_Mo_determine_24 : decode cc_Mo_determine 24 = .ok (.bipush (-3), 2) := by decide +kernel
theorem dd_Mo_determine_26 : decode cc_Mo_determine 26 = .ok (.ireturn, 1) := by decide +kernel
theorem dd_Mo_determine_27 : decode cc_Mo_determine 27 = .ok (.aload_n 0, 1) := by decide +kernel
theorem dd_Mo_determine_28 : decode cc_Mo_determine 28 = .ok (.iconst 4, 1) := by decide +kernel
theorem dd_Mo_determine_29 : decode cc_Mo_determine 29 = .ok (.iconst 0, 1) := by decide +kernel
theorem dd_Mo_determine_30 : decode cc_Mo_determine 30 = .ok (.invokevirtual 75, 3) := by decide +kernel
theorem dd_Mo_determine_33 : decode cc_Mo_determine 33 = .ok (.aload_n 0, 1) := by decide +kernel
theorem dd_Mo_determine_34 : decode cc_Mo_determine 34 = .ok (.iconst 0, 1) := by decide +kernel
theorem dd_Mo_determine_35 : decode cc_Mo_determine 35 = .ok (.putfield 103, 3) := by decide +kernel
theorem dd_Mo_determine_38 : decode cc_Mo_determine 38 = .ok (.aload_n 0, 1) := by decide +kernel
theorem dd_Mo_determine_39 : decode cc_Mo_determine 39 = .ok (.getfield 13, 3) := by decide +kernel
theorem dd_Mo_determine_42 : decode cc_Mo_determine 42 = .ok (.iload_n 1, 1) := by decide +kernel
theorem dd_Mo_determine_43 : decode cc_Mo_determine 43 = .ok (.iaload, 1) := by decide +kernel
theorem dd_Mo_determine_44 : decode cc_Mo_determine 44 = .ok (.ifCond .lt 64, 3) := by decide +kernel
theorem dd_Mo_determine_47 : decode cc_Mo_determine 47 = .ok (.iconst 0, 1) := by decide +kernel
theorem dd_Mo_determine_48 : decode cc_Mo_determine 48 = .ok (.istore_n 3, 1) := by decide +kernel
theorem dd_Mo_determine_49 : decode cc_Mo_determine 49 = .ok (.iload_n 3, 1) := by decide +kernel
theorem dd_Mo_determine_50 : decode cc_Mo_determine 50 = .ok (.bipush 16, 2) := by decide +kernel
theorem dd_Mo_determine_52 : decode cc_Mo_determine 52 = .ok (.if_icmp .ge 32, 3) := by decide +kernel
theorem dd_Mo_determine_55 : decode cc_Mo_determine 55 = .ok (.aload_n 0, 1) := by decide +kernel
theorem dd_Mo_determine_56 : decode cc_Mo_determine 56 = .ok (.getfield 72, 3) := by decide +kernel
theorem dd_Mo_determine_59 : decode cc_Mo_determine 59 = .ok (.iload_n 3, 1) := by decide +kernel
theorem dd_Mo_determine_60 : decode cc_Mo_determine 60 = .ok (.iload_n 3, 1) := by decide +kernel
theorem dd_Mo_determine_61 : decode cc_Mo_determine 61 = .ok (.aload_n 0, 1) := by decide +kernel
theorem dd_Mo_determine_62 : decode cc_Mo_determine 62 = .ok (.getfield 13, 3) := by decide +kernel
theorem dd_Mo_determine_65 : decode cc_Mo_determine 65 = .ok (.iload_n 1, 1) := by decide +kernel
theorem dd_Mo_determine_66 : decode cc_Mo_determine 66 = .ok (.iaload, 1) := by decide +kernel
theorem dd_Mo_determine_67 : decode cc_Mo_determine 67 = .ok (.if_icmp .ne 7, 3) := by decide +kernel
theorem dd_Mo_determine_70 : decode cc_Mo_determine 70 = .ok (.lconst 0, 1) := by decide +kernel
theorem dd_Mo_determine_71 : decode cc_Mo_determine 71 = .ok (.goto 6, 3) := by decide +kernel
theorem dd_Mo_determine_74 : decode cc_Mo_determine 74 = .ok (.ldc2_w 79, 3) := by decide +kernel
theorem dd_Mo_determine_77 : decode cc_Mo_determine 77 = .ok (.lastore, 1) := by decide +kernel
theorem dd_Mo_determine_78 : decode cc_Mo_determine 78 = .ok (.iinc 3 1, 3) := by decide +kernel
theorem dd_Mo_determine_81 : decode cc_Mo_determine 81 = .ok (.goto (-32), 3) := by decide +kernel
theorem dd_Mo_determine_84 : decode cc_Mo_determine 84 = .ok (.aload_n 0, 1) := by decide +kernel
theorem dd_Mo_determine_85 : decode cc_Mo_determine 85 = .ok (.iconst 1, 1) := by decide +kernel
theorem dd_Mo_determine_86 : decode cc_Mo_determine 86 = .ok (.putfield 103, 3) := by decide +kernel
theorem dd_Mo_determine_89 : decode cc_Mo_determine 89 = .ok (.aload_n 0, 1) := by decide +kernel
theorem dd_Mo_determine_90 : decode cc_Mo_determine 90 = .ok (.getfield 13, 3) := by decide +kernel
theorem dd_Mo_determine_93 : decode cc_Mo_determine 93 = .ok (.iconst 4, 1) := by decide +kernel
theorem dd_Mo_determine_94 : decode cc_Mo_determine 94 = .ok (.iconst 0, 1) := by decide +kernel
theorem dd_Mo_determine_95 : decode cc_Mo_determine 95 = .ok (.iastore, 1) := by decide +kernel
theorem dd_Mo_determine_96 : decode cc_Mo_determine 96 = .ok (.aload_n 0, 1) := by decide +kernel
theorem dd_Mo_determine_97 : decode cc_Mo_determine 97 = .ok (.getfield 16, 3) := by decide +kernel
theorem dd_Mo_determine_100 : decode cc_Mo_determine 100 = .ok (.iconst 4, 1) := by decide +kernel
theorem dd_Mo_determine_101 : decode cc_Mo_determine 101 = .ok (.aload_n 0, 1) := by decide +kernel
theorem dd_Mo_determine_102 : decode cc_Mo_determine 102 = .ok (.getfield 16, 3) := by decide +kernel
theorem dd_Mo_determine_105 : decode cc_Mo_determine 105 = .ok (.iload_n 1, 1) := by decide +kernel
theorem dd_Mo_determine_106 : decode cc_Mo_determine 106 = .ok (.laload, 1) := by decide +kernel
theorem dd_Mo_determine_107 : decode cc_Mo_determine 107 = .ok (.lastore, 1) := by decide +kernel
theorem dd_Mo_determine_108 : decode cc_Mo_determine 108 = .ok (.aload_n 0, 1) := by decide +kernel
theorem dd_Mo_determine_109 : decode cc_Mo_determine 109 = .ok (.iload_n 1, 1) := by decide +kernel
theorem dd_Mo_determine_110 : decode cc_Mo_determine 110 = .ok (.invokevirtual 145, 3) := by decide +kernel
theorem dd_Mo_determine_113 : decode cc_Mo_determine 113 = .ok (.ifCond .ne 6, 3) := by decide +kernel
theorem dd_Mo_determine_116 : decode cc_Mo_determine 116 = .ok (.bipush (-2), 2) := by decide +kernel
theorem dd_Mo_determine_118 : decode cc_Mo_determine 118 = .ok (.ireturn, 1) := by decide +kernel
theorem dd_Mo_determine_119 : decode cc_Mo_determine 119 = .ok (.aload_n 0, 1) := by decide +kernel
theorem dd_Mo_determine_120 : decode cc_Mo_determine 120 = .ok (.getfield 7, 3) := by decide +kernel
theorem dd_Mo_determine_123 : decode cc_Mo_determine 123 = .ok (.iconst 4, 1) := by decide +kernel
theorem dd_Mo_determine_124 : decode cc_Mo_determine 124 = .ok (.aload_n 0, 1) := by decide +kernel
theorem dd_Mo_determine_125 : decode cc_Mo_determine 125 = .ok (.getfield 103, 3) := by decide +kernel
theorem dd_Mo_determine_128 : decode cc_Mo_determine 128 = .ok (.iastore, 1) := by decide +kernel
theorem dd_Mo_determine_129 : decode cc_Mo_determine 129 = .ok (.iconst 0, 1) := by decide +kernel
theorem dd_Mo_determine_130 : decode cc_Mo_determine 130 = .ok (.istore_n 3, 1) := by decide +kernel
theorem dd_Mo_determine_131 : decode cc_Mo_determine 131 = .ok (.iload_n 3, 1) := by decide +kernel
theorem dd_Mo_determine_132 : decode cc_Mo_determine 132 = .ok (.aload_n 0, 1) := by decide +kernel
theorem dd_Mo_determine_133 : decode cc_Mo_determine 133 = .ok (.getfield 103, 3) := by decide +kernel
theorem dd_Mo_determine_136 : decode cc_Mo_determine 136 = .ok (.if_icmp .ge 138, 3) := by decide +kernel
theorem dd_Mo_determine_139 : decode cc_Mo_determine 139 = .ok (.ldc2_w 129, 3) := by decide +kernel
theorem dd_Mo_determine_142 : decode cc_Mo_determine 142 = .ok (.lstore 4, 2) := by decide +kernel
theorem dd_Mo_determine_144 : decode cc_Mo_determine 144 = .ok (.iconst 0, 1) := by decide +kernel
theorem dd_Mo_determine_145 : decode cc_Mo_determine 145 = .ok (.istore 6, 2) := by decide +kernel
theorem dd_Mo_determine_147 : decode cc_Mo_determine 147 = .ok (.iload 6, 2) := by decide +kernel
theorem dd_Mo_determine_149 : decode cc_Mo_determine 149 = .ok (.aload_n 0, 1) := by decide +kernel
theorem dd_Mo_determine_150 : decode cc_Mo_determine 150 = .ok (.getfield 7, 3) := by decide +kernel
theorem dd_Mo_determine_153 : decode cc_Mo_determine 153 = .ok (.iload_n 1, 1) := by decide +kernel
theorem dd_Mo_determine_154 : decode cc_Mo_determine 154 = .ok (.iaload, 1) := by decide +kernel
theorem dd_Mo_determine_155 : decode cc_Mo_determine 155 = .ok (.if_icmp .ge 87, 3) := by decide +kernel
theorem dd_Mo_determine_158 : decode cc_Mo_determine 158 = .ok (.aload_n 0, 1) := by decide +kernel
theorem dd_Mo_determine_159 : decode cc_Mo_determine 159 = .ok (.getfield 72, 3) := by decide +kernel
theorem dd_Mo_determine_162 : decode cc_Mo_determine 162 = .ok (.bipush 16, 2) := by decide +kernel
theorem dd_Mo_determine_164 : decode cc_Mo_determine 164 = .ok (.iload_n 3, 1) := by decide +kernel
theorem dd_Mo_determine_165 : decode cc_Mo_determine 165 = .ok (.imul, 1) := by decide +kernel
theorem dd_Mo_determine_166 : decode cc_Mo_determine 166 = .ok (.iload 6, 2) := by decide +kernel
theorem dd_Mo_determine_168 : decode cc_Mo_determine 168 = .ok (.iadd, 1) := by decide +kernel
theorem dd_Mo_determine_169 : decode cc_Mo_determine 169 = .ok (.laload, 1) := by decide +kernel
theorem dd_Mo_determine_170 : decode cc_Mo_determine 170 = .ok (.lstore 7, 2) := by decide +kernel
theorem dd_Mo_determine_172 : decode cc_Mo_determine 172 = .ok (.lload 7, 2) := by decide +kernel
theorem dd_Mo_determine_174 : decode cc_Mo_determine 174 = .ok (.lconst 0, 1) := by decide +kernel
theorem dd_Mo_determine_175 : decode cc_Mo_determine 175 = .ok (.lcmp, 1) := by decide +kernel
theorem dd_Mo_determine_176 : decode cc_Mo_determine 176 = .ok (.ifCond .lt 38, 3) := by decide +kernel
theorem dd_Mo_determine_179 : decode cc_Mo_determine 179 = .ok (.aload_n 0, 1) := by decide +kernel
theorem dd_Mo_determine_180 : decode cc_Mo_determine 180 = .ok (.getfield 20, 3) := by decide +kernel
theorem dd_Mo_determine_183 : decode cc_Mo_determine 183 = .ok (.bipush 16, 2) := by decide +kernel
theorem dd_Mo_determine_185 : decode cc_Mo_determine 185 = .ok (.iload_n 1, 1) := by decide +kernel
theorem dd_Mo_determine_186 : decode cc_Mo_determine 186 = .ok (.imul, 1) := by decide +kernel
theorem dd_Mo_determine_187 : decode cc_Mo_determine 187 = .ok (.iload 6, 2) := by decide +kernel
theorem dd_Mo_determine_189 : decode cc_Mo_determine 189 = .ok (.iadd, 1) := by decide +kernel
theorem dd_Mo_determine_190 : decode cc_Mo_determine 190 = .ok (.laload, 1) := by decide +kernel
theorem dd_Mo_determine_191 : decode cc_Mo_determine 191 = .ok (.lconst 0, 1) := by decide +kernel
theorem dd_Mo_determine_192 : decode cc_Mo_determine 192 = .ok (.lcmp, 1) := by decide +kernel
theorem dd_Mo_determine_193 : decode cc_Mo_determine 193 = .ok (.ifCond .lt 21, 3) := by decide +kernel
theorem dd_Mo_determine_196 : decode cc_Mo_determine 196 = .ok (.lload 7, 2) := by decide +kernel
theorem dd_Mo_determine_198 : decode cc_Mo_determine 198 = .ok (.aload_n 0, 1) := by decide +kernel
theorem dd_Mo_determine_199 : decode cc_Mo_determine 199 = .ok (.getfield 20, 3) := by decide +kernel
theorem dd_Mo_determine_202 : decode cc_Mo_determine 202 = .ok (.bipush 16, 2) := by decide +kernel
theorem dd_Mo_determine_204 : decode cc_Mo_determine 204 = .ok (.iload_n 1, 1) := by decide +kernel
theorem dd_Mo_determine_205 : decode cc_Mo_determine 205 = .ok (.imul, 1) := by decide +kernel
theorem dd_Mo_determine_206 : decode cc_Mo_determine 206 = .ok (.iload 6, 2) := by decide +kernel
theorem dd_Mo_determine_208 : decode cc_Mo_determine 208 = .ok (.iadd, 1) := by decide +kernel
theorem dd_Mo_determine_209 : decode cc_Mo_determine 209 = .ok (.laload, 1) := by decide +kernel
theorem dd_Mo_determine_210 : decode cc_Mo_determine 210 = .ok (.ladd, 1) := by decide +kernel
theorem dd_Mo_determine_211 : decode cc_Mo_determine 211 = .ok (.goto 6, 3) := by decide +kernel
theorem dd_Mo_determine_214 : decode cc_Mo_determine 214 = .ok (.ldc2_w 129, 3) := by decide +kernel
theorem dd_Mo_determine_217 : decode cc_Mo_determine 217 = .ok (.lstore 9, 2) := by decide +kernel
theorem dd_Mo_determine_219 : decode cc_Mo_determine 219 = .ok (.lload 9, 2) := by decide +kernel
theorem dd_Mo_determine_221 : decode cc_Mo_determine 221 = .ok (.lload 4, 2) := by decide +kernel
theorem dd_Mo_determine_223 : decode cc_Mo_determine 223 = .ok (.lcmp, 1) := by decide +kernel
theorem dd_Mo_determine_224 : decode cc_Mo_determine 224 = .ok (.ifCond .ge 8, 3) := by decide +kernel
theorem dd_Mo_determine_227 : decode cc_Mo_determine 227 = .ok (.lload 9, 2) := by decide +kernel
theorem dd_Mo_determine_229 : decode cc_Mo_determine 229 = .ok (.goto 5, 3) := by decide +kernel
theorem dd_Mo_determine_232 : decode cc_Mo_determine 232 = .ok (.lload 4, 2) := by decide +kernel
theorem dd_Mo_determine_234 : decode cc_Mo_determine 234 = .ok (.lstore 4, 2) := by decide +kernel
theorem dd_Mo_determine_236 : decode cc_Mo_determine 236 = .ok (.iinc 6 1, 3) := by decide +kernel
theorem dd_Mo_determine_239 : decode cc_Mo_determine 239 = .ok (.goto (-92), 3) := by decide +kernel
theorem dd_Mo_determine_242 : decode cc_Mo_determine 242 = .ok (.aload_n 0, 1) := by decide +kernel
theorem dd_Mo_determine_243 : decode cc_Mo_determine 243 = .ok (.getfield 20, 3) := by decide +kernel
theorem dd_Mo_determine_246 : decode cc_Mo_determine 246 = .ok (.bipush 64, 2) := by decide +kernel
theorem dd_Mo_determine_248 : decode cc_Mo_determine 248 = .ok (.iload_n 3, 1) := by decide +kernel
theorem dd_Mo_determine_249 : decode cc_Mo_determine 249 = .ok (.iadd, 1) := by decide +kernel
theorem dd_Mo_determine_250 : decode cc_Mo_determine 250 = .ok (.lload 4, 2) := by decide +kernel
theorem dd_Mo_determine_252 : decode cc_Mo_determine 252 = .ok (.ldc2_w 129, 3) := by decide +kernel
theorem dd_Mo_determine_255 : decode cc_Mo_determine 255 = .ok (.lcmp, 1) := by decide +kernel
theorem dd_Mo_determine_256 : decode cc_Mo_determine 256 = .ok (.ifCond .ge 8, 3) := by decide +kernel
theorem dd_Mo_determine_259 : decode cc_Mo_determine 259 = .ok (.lload 4, 2) := by decide +kernel
theorem dd_Mo_determine_261 : decode cc_Mo_determine 261 = .ok (.goto 6, 3) := by decide +kernel
theorem dd_Mo_determine_264 : decode cc_Mo_determine 264 = .ok (.ldc2_w 79, 3) := by decide +kernel
theorem dd_Mo_determine_267 : decode cc_Mo_determine 267 = .ok (.lastore, 1) := by decide +kernel
theorem dd_Mo_determine_268 : decode cc_Mo_determine 268 = .ok (.iinc 3 1, 3) := by decide +kernel
theorem dd_Mo_determine_271 : decode cc_Mo_determine 271 = .ok (.goto (-140), 3) := by decide +kernel
theorem dd_Mo_determine_274 : decode cc_Mo_determine 274 = .ok (.aload_n 0, 1) := by decide +kernel
theorem dd_Mo_determine_275 : decode cc_Mo_determine 275 = .ok (.iload_n 2, 1) := by decide +kernel
theorem dd_Mo_determine_276 : decode cc_Mo_determine 276 = .ok (.invokevirtual 126, 3) := by decide +kernel
theorem dd_Mo_determine_279 : decode cc_Mo_determine 279 = .ok (.ifCond .eq 10, 3) := by decide +kernel
theorem dd_Mo_determine_282 : decode cc_Mo_determine 282 = .ok (.aload_n 0, 1) := by decide +kernel
theorem dd_Mo_determine_283 : decode cc_Mo_determine 283 = .ok (.getfield 103, 3) := by decide +kernel
theorem dd_Mo_determine_286 : decode cc_Mo_determine 286 = .ok (.goto 5, 3) := by decide +kernel
theorem dd_Mo_determine_289 : decode cc_Mo_determine 289 = .ok (.bipush (-2), 2) := by decide +kernel
theorem dd_Mo_determine_291 : decode cc_Mo_determine 291 = .ok (.ireturn, 1) := by decide +kernel
/-! MAKING IT HAVE ONE WAY, as the reference does -/
def mrs (L : mo_L) (T : List ls_V) : Prop := ∀ k v, T[k]? = some v → ∀ s, s < 16 → L 64 (16 * k + s) = am_e (v s)
theorem mrs_k {L L2 : mo_L} {T : List ls_V} (h : L2 64 = L 64) (hr : mrs L T) : mrs L2 T := by
  unfold mrs at hr ⊢
  rw [h]
  exact hr
theorem mrs_lo {L L2 : mo_L} {T : List ls_V} (h : ∀ i, i < 16 * T.length → L2 64 i = L 64 i) (hr : mrs L T) : mrs L2 T := by
  intro k v hk s hs
  have := (List.getElem?_eq_some_iff.mp hk).1
  rw [h _ (by omega)]
  exact hr k v hk s hs
theorem am_e_inj {x y : Option Nat} (hx : ∀ a, x = some a → a < 2 ^ 60) (hy : ∀ a, y = some a → a < 2 ^ 60) : am_e x = am_e y ↔ x = y := by
  refine ⟨fun h => ?_, fun h => by rw [h]⟩
  cases x with
  | none =>
    cases y with
    | none => rfl
    | some b =>
      exfalso
      have := hy b rfl
      have h : (-1 : Int64) = lN b := h
      have h2 : ¬ lN b < lN 0 := by rw [pk_lLT (by omega) (by decide)]; omega
      rw [← h] at h2
      exact h2 (by decide)
  | some a =>
    have := hx a rfl
    cases y with
    | none =>
      exfalso
      have h : lN a = (-1 : Int64) := h
      have h2 : ¬ lN a < lN 0 := by rw [pk_lLT (by omega) (by decide)]; omega
      rw [h] at h2
      exact h2 (by decide)
    | some b =>
      have := hy b rfl
      have h : lN a = lN b := h
      rw [pk_lEQ (by omega) (by omega)] at h
      rw [h]
theorem de_r_n {v : ls_V} {label : Nat} {s : ls_V × Option Nat} {x : Nat × Nat} (h : ¬ (x.1 / 128 % 8 = label ∧ ls_lt (ls_ad (v (x.1 / 1024)) x.2) (s.1 (x.1 % 16)) = true)) : de_r v label s x = s := if_neg h
theorem de_r_y {v : ls_V} {label : Nat} {s : ls_V × Option Nat} {x : Nat × Nat} (h : x.1 / 128 % 8 = label ∧ ls_lt (ls_ad (v (x.1 / 1024)) x.2) (s.1 (x.1 % 16)) = true) : de_r v label s x = (va_up s.1 (x.1 % 16) (ls_ad (v (x.1 / 1024)) x.2), om s.2 (ls_ad (v (x.1 / 1024)) x.2)) := if_pos h
theorem vu_at {L L2 : mo_L} {b t s : Nat} {z : Int64} (h : L2 = va_up L 64 (vp_updL (L 64) (b + t) z)) : L2 64 (b + s) = if s = t then z else L 64 (b + s) := by
  rw [h, gm_us]
  by_cases hs : s = t
  · rw [if_pos hs, hs, pk_uLs]
  · rw [if_neg hs, pk_uLn (by omega)]
theorem vu_lo {L L2 : mo_L} {b t : Nat} {z : Int64} (h : L2 = va_up L 64 (vp_updL (L 64) (b + t) z)) : ∀ i, i < b → L2 64 i = L 64 i := by
  intro i hi
  rw [h, gm_us, pk_uLn (by omega)]
set_option maxRecDepth 100000 in
set_option maxHeartbeats 4000000 in
theorem ct_Mo_follow (l : Launch) (D : va_G) (dA : Nat → ClassId) (ad : Nat → Nat) (h : Nat → va_E) (F : mo_F) (L : mo_L) (S : Nat → Int32) {ia k lb : Nat} {A : am_T} {T : List ls_V} {vv : ls_V} (hia : ia < 4) (hA : mo_is F L ia A) (hAb : ∀ x ∈ am_ar A, x.1 < 16384 ∧ x.2 < 1000000001) (hS : S 27 = nI T.length) (hT16 : T.length ≤ 16) (hT : mrs L T) (hk : T[k]? = some vv) (hvb : sp_b 17000000018 vv) (hlb : lb < 8) : gx_Ct l D dA yy_Mo_follow cc_Mo_follow 12 (some .long) 0 0 0 [.ref (ad 43), .int (nI ia), .int (nI k), .int (nI lb)] (gx_w ad (mo_h dA ad h F L S)) (fun v w => v = some (.long (am_e (de_su (am_ar A) vv lb).2)) ∧ ∃ L2, w = (gx_w ad (mo_h dA ad h F L2 S)) ∧ (∀ k, k ≠ 64 → L2 k = L k) ∧ (∀ i, i < 16 * T.length → L2 64 i = L 64 i) ∧ ∀ w0, (de_su (am_ar A) vv lb).2 = some w0 → ∀ q, q < 16 → L2 64 (16 * T.length + q) = am_e (de_row (de_su (am_ar A) vv lb).1 w0 q)) := by
  refine gx_of (by decide) (Nat.le_of_ble_eq_true rfl) (fun K C _ _ => ?_)
  have hla := hA.2.2.2.2.2
  have hkl := (List.getElem?_eq_some_iff.mp hk).1
  have fill : ∀ m q L1, q + m = 16 → (∀ s, s < q → L1 64 (16 * T.length + s) = -1) → (∀ k, k ≠ 64 → L1 k = L k) → (∀ i, i < 16 * T.length → L1 64 i = L 64 i) → gx_G K D 12 0 0 8 [(6, .int (nI q)), (4, .long 4000000000000000000), (0, .ref (ad 43)), (1, .int (nI ia)), (2, .int (nI k)), (3, .int (nI lb))] [] (gx_w ad (mo_h dA ad h F L1 S)) (gx_Z K D dA 0 0 (fun v w => v = some (.long (am_e (de_su (am_ar A) vv lb).2)) ∧ ∃ L2, w = (gx_w ad (mo_h dA ad h F L2 S)) ∧ (∀ k, k ≠ 64 → L2 k = L k) ∧ (∀ i, i < 16 * T.length → L2 64 i = L 64 i) ∧ ∀ w0, (de_su (am_ar A) vv lb).2 = some w0 → ∀ q, q < 16 → L2 64 (16 * T.length + q) = am_e (de_row (de_su (am_ar A) vv lb).1 w0 q))) := by
    intro m
    induction m with
    | zero =>
      intro q L1 hq0 hf hLk hlo
      refine gx_iload C 0 dd_Mo_follow_8 (kk := ?_)
      refine gx_bipush (v := nI 16) C dd_Mo_follow_10 (kk := ?_)
      refine gx_icmp_ge C 39 dd_Mo_follow_12 (fun h12 => ?_) (fun h12 => absurd (nI_le (a := 16) (b := q) (by omega) (by omega)) h12)
      refine gx_bipush (v := nI 65) C dd_Mo_follow_39 (kk := ?_)
      refine gx_iload_n C 3 dd_Mo_follow_41 (kk := ?_)
      refine gx_imul C dd_Mo_follow_42 (kk := ?_)
      refine gx_topi _ (pk_mul _ _) ?_
      refine gx_istore C _ dd_Mo_follow_43 (kk := ?_)
      have arcs : ∀ m j s L1, j + m = (am_ar A).length → s = de_sk (am_ar A) vv lb j → (∀ q, q < 16 → L1 64 (16 * T.length + q) = am_e (s.1 q)) → (∀ k, k ≠ 64 → L1 k = L k) → (∀ i, i < 16 * T.length → L1 64 i = L 64 i) → gx_G K D 12 0 0 45 [(6, .int (nI (65 * ia + j))), (4, .long (mf s.2)), (0, .ref (ad 43)), (1, .int (nI ia)), (2, .int (nI k)), (3, .int (nI lb))] [] (gx_w ad (mo_h dA ad h F L1 S)) (gx_Z K D dA 0 0 (fun v w => v = some (.long (am_e (de_su (am_ar A) vv lb).2)) ∧ ∃ L2, w = (gx_w ad (mo_h dA ad h F L2 S)) ∧ (∀ k, k ≠ 64 → L2 k = L k) ∧ (∀ i, i < 16 * T.length → L2 64 i = L 64 i) ∧ ∀ w0, (de_su (am_ar A) vv lb).2 = some w0 → ∀ q, q < 16 → L2 64 (16 * T.length + q) = am_e (de_row (de_su (am_ar A) vv lb).1 w0 q))) := by
        intro m
        induction m with
        | zero =>
          intro j s L1 hj hs hrow hLk hlo
          refine gx_iload C 0 dd_Mo_follow_45 (kk := ?_)
          refine gx_bipush (v := nI 65) C dd_Mo_follow_47 (kk := ?_)
          refine gx_iload_n C 3 dd_Mo_follow_49 (kk := ?_)
          refine gx_imul C dd_Mo_follow_50 (kk := ?_)
          refine gx_topi _ (pk_mul _ _) ?_
          refine gx_aload_n C 2 dd_Mo_follow_51 (kk := ?_)
          refine mo_get C fd_Mo_23 dd_Mo_follow_52 (kk := ?_)
          refine gx_iload_n C 3 dd_Mo_follow_55 (kk := ?_)
          refine mo_l48 C dd_Mo_follow_56 (by omega) (kk := ?_)
          refine gx_topi _ (mo_is_k (fun _ _ => rfl) (fun k hk => hLk k (by omega)) hA).2.2.2.1 ?_
          refine gx_iadd C dd_Mo_follow_57 (kk := ?_)
          refine gx_topi _ (nI_add _ _) ?_
          refine gx_icmp_ge C 194 dd_Mo_follow_58 (fun h58 => ?_) (fun h58 => absurd (nI_le (a := 65 * ia + (am_ar A).length) (b := 65 * ia + j) (by omega) (by omega)) h58)
          refine gx_bipush (v := nI 16) C dd_Mo_follow_194 (kk := ?_)
          refine gx_aload_n C 2 dd_Mo_follow_196 (kk := ?_)
          refine mo_get C fd_Mo_103 dd_Mo_follow_197 (kk := ?_)
          refine gx_topi _ hS ?_
          refine gx_imul C dd_Mo_follow_200 (kk := ?_)
          refine gx_topi _ (pk_mul _ _) ?_
          refine gx_istore C _ dd_Mo_follow_201 (kk := ?_)
          rw [show j = (am_ar A).length by omega, de_sk_e] at hs
          obtain ⟨hb1, hb2, hle⟩ := de_su_b (label := lb) hvb (fun x hx => (hAb x hx).2)
          rw [← hs] at hb1 hb2 hle
          have rests : ∀ m2 t L1, t + m2 = 16 → (∀ q, q < t → L1 64 (16 * T.length + q) = am_e ((s.1 q).map (fun d => d - s.2.getD 0))) → (∀ q, t ≤ q → q < 16 → L1 64 (16 * T.length + q) = am_e (s.1 q)) → (∀ k, k ≠ 64 → L1 k = L k) → (∀ i, i < 16 * T.length → L1 64 i = L 64 i) → gx_G K D 12 0 0 203 [(6, .int (nI (16 * T.length + t))), (4, .long (mf s.2)), (0, .ref (ad 43)), (1, .int (nI ia)), (2, .int (nI k)), (3, .int (nI lb))] [] (gx_w ad (mo_h dA ad h F L1 S)) (gx_Z K D dA 0 0 (fun v w => v = some (.long (am_e (de_su (am_ar A) vv lb).2)) ∧ ∃ L2, w = (gx_w ad (mo_h dA ad h F L2 S)) ∧ (∀ k, k ≠ 64 → L2 k = L k) ∧ (∀ i, i < 16 * T.length → L2 64 i = L 64 i) ∧ ∀ w0, (de_su (am_ar A) vv lb).2 = some w0 → ∀ q, q < 16 → L2 64 (16 * T.length + q) = am_e (de_row (de_su (am_ar A) vv lb).1 w0 q))) := by
            intro m2
            induction m2 with
            | zero =>
              intro t L1 ht hdone hrow hLk hlo
              refine gx_iload C 0 dd_Mo_follow_203 (kk := ?_)
              refine gx_bipush (v := nI 16) C dd_Mo_follow_205 (kk := ?_)
              refine gx_aload_n C 2 dd_Mo_follow_207 (kk := ?_)
              refine mo_get C fd_Mo_103 dd_Mo_follow_208 (kk := ?_)
              refine gx_topi _ hS ?_
              refine gx_imul C dd_Mo_follow_211 (kk := ?_)
              refine gx_topi _ (pk_mul _ _) ?_
              refine gx_bipush (v := nI 16) C dd_Mo_follow_212 (kk := ?_)
              refine gx_iadd C dd_Mo_follow_214 (kk := ?_)
              refine gx_topi _ (nI_add _ _) ?_
              refine gx_icmp_ge C 259 dd_Mo_follow_215 (fun h215 => ?_) (fun h215 => absurd (nI_le (a := 16 * T.length + 16) (b := 16 * T.length + t) (by omega) (by omega)) h215)
              rcases hlow : s.2 with _ | wl
              · refine gx_lload C 1 dd_Mo_follow_259 (kk := ?_)
                refine gx_ldc2 C dd_Mo_follow_261 kc_Mo_129 (kk := ?_)
                refine gx_lcmp C dd_Mo_follow_264 (kk := ?_)
                refine gx_if_ge C 273 dd_Mo_follow_265 (fun h265 => ?_) (fun h265 => absurd (by decide) h265)
                refine gx_ldc2 C dd_Mo_follow_273 kc_Mo_79 (kk := ?_)
                refine gx_lret C dd_Mo_follow_276 ?_
                refine ⟨?_, L1, rfl, hLk, hlo, fun w0 hw0 => ?_⟩
                · rw [← hs, hlow]
                  rfl
                · rw [← hs, hlow] at hw0
                  cases hw0
              · have hwl := hb2 wl hlow
                refine gx_lload C 1 dd_Mo_follow_259 (kk := ?_)
                refine gx_ldc2 C dd_Mo_follow_261 kc_Mo_129 (kk := ?_)
                refine gx_lcmp C dd_Mo_follow_264 (kk := ?_)
                refine gx_if_ge C 273 dd_Mo_follow_265 (fun h265 => absurd (lc_ge.mp h265) (mf_fl (by omega))) (fun h265 => ?_)
                refine gx_lload C 1 dd_Mo_follow_268 (kk := ?_)
                refine gx_goto C 276 dd_Mo_follow_270 (kk := ?_)
                refine gx_lret C dd_Mo_follow_276 ?_
                refine ⟨?_, L1, rfl, hLk, hlo, fun w0 hw0 q hq2 => ?_⟩
                · rw [← hs, hlow]
                  rfl
                · rw [← hs] at hw0 ⊢
                  rw [hdone q (by omega), hw0]
                  rfl
            | succ m2 ihc =>
              intro t L1 ht hdone hrow hLk hlo
              refine gx_iload C 0 dd_Mo_follow_203 (kk := ?_)
              refine gx_bipush (v := nI 16) C dd_Mo_follow_205 (kk := ?_)
              refine gx_aload_n C 2 dd_Mo_follow_207 (kk := ?_)
              refine mo_get C fd_Mo_103 dd_Mo_follow_208 (kk := ?_)
              refine gx_topi _ hS ?_
              refine gx_imul C dd_Mo_follow_211 (kk := ?_)
              refine gx_topi _ (pk_mul _ _) ?_
              refine gx_bipush (v := nI 16) C dd_Mo_follow_212 (kk := ?_)
              refine gx_iadd C dd_Mo_follow_214 (kk := ?_)
              refine gx_topi _ (nI_add _ _) ?_
              refine gx_icmp_ge C 259 dd_Mo_follow_215 (fun h215 => absurd h215 (nI_ge (by omega) (by omega))) (fun h215 => ?_)
              have hr0 := hrow t (Nat.le_refl _) (by omega)
              rcases hut : s.1 t with _ | d
              · rw [hut] at hr0
                refine gx_aload_n C 2 dd_Mo_follow_218 (kk := ?_)
                refine mo_get C fd_Mo_72 dd_Mo_follow_219 (kk := ?_)
                refine gx_iload C 0 dd_Mo_follow_222 (kk := ?_)
                refine gx_aload_n C 2 dd_Mo_follow_224 (kk := ?_)
                refine mo_get C fd_Mo_72 dd_Mo_follow_225 (kk := ?_)
                refine gx_iload C 0 dd_Mo_follow_228 (kk := ?_)
                refine mo_l64 C dd_Mo_follow_230 (by omega) (kk := ?_)
                refine gx_topl (-1) hr0 ?_
                refine gx_lconst (v := lN 0) C dd_Mo_follow_231 (kk := ?_)
                refine gx_lcmp C dd_Mo_follow_232 (kk := ?_)
                refine gx_if_ge C 242 dd_Mo_follow_233 (fun h233 => absurd h233 (by decide)) (fun h233 => ?_)
                refine gx_ldc2 C dd_Mo_follow_236 kc_Mo_79 (kk := ?_)
                refine gx_goto C 252 dd_Mo_follow_239 (kk := ?_)
                refine mo_s64 C dd_Mo_follow_252 (by omega) (kk := fun L252 hL252 => ?_)
                refine gx_iinc C 0 (nI (16 * T.length + (t + 1))) _ dd_Mo_follow_253 (nI_1 _) (kk := ?_)
                refine gx_goto C 203 dd_Mo_follow_256 (kk := ?_)
                refine ihc (t + 1) L252 (by omega) (fun q hq2 => ?_) (fun q hq1 hq2 => ?_) (fun k hk => by rw [hL252, gm_un hk]; exact hLk k hk) (fun i hi => (vu_lo hL252 i hi).trans (hlo i hi))
                · rw [vu_at hL252]
                  by_cases hqt : q = t
                  · rw [if_pos hqt, hqt]
                    rw [hut]
                    rfl
                  · rw [if_neg hqt]
                    exact hdone q (by omega)
                · rw [vu_at hL252, if_neg (by omega)]
                  exact hrow q (by omega) hq2
              · rw [hut] at hr0
                have hdb := hb1 t d hut
                obtain ⟨w0, hw0, hwd⟩ := hle t d hut
                refine gx_aload_n C 2 dd_Mo_follow_218 (kk := ?_)
                refine mo_get C fd_Mo_72 dd_Mo_follow_219 (kk := ?_)
                refine gx_iload C 0 dd_Mo_follow_222 (kk := ?_)
                refine gx_aload_n C 2 dd_Mo_follow_224 (kk := ?_)
                refine mo_get C fd_Mo_72 dd_Mo_follow_225 (kk := ?_)
                refine gx_iload C 0 dd_Mo_follow_228 (kk := ?_)
                refine mo_l64 C dd_Mo_follow_230 (by omega) (kk := ?_)
                refine gx_topl (lN d) hr0 ?_
                refine gx_lconst (v := lN 0) C dd_Mo_follow_231 (kk := ?_)
                refine gx_lcmp C dd_Mo_follow_232 (kk := ?_)
                refine gx_if_ge C 242 dd_Mo_follow_233 (fun h233 => ?_) (fun h233 => absurd (lc_ge.mpr (by show lN 0 ≤ lN d; rw [pk_lLE (by decide) (by omega)]; omega)) h233)
                refine gx_aload_n C 2 dd_Mo_follow_242 (kk := ?_)
                refine mo_get C fd_Mo_72 dd_Mo_follow_243 (kk := ?_)
                refine gx_iload C 0 dd_Mo_follow_246 (kk := ?_)
                refine mo_l64 C dd_Mo_follow_248 (by omega) (kk := ?_)
                refine gx_topl (lN d) hr0 ?_
                refine gx_lload C 1 dd_Mo_follow_249 (kk := ?_)
                refine gx_topl (lN w0) (by rw [hw0]; rfl) ?_
                refine gx_lsub C dd_Mo_follow_251 (kk := ?_)
                refine gx_topl (lN (d - w0)) (lN_sub hwd) ?_
                refine mo_s64 C dd_Mo_follow_252 (by omega) (kk := fun L252 hL252 => ?_)
                refine gx_iinc C 0 (nI (16 * T.length + (t + 1))) _ dd_Mo_follow_253 (nI_1 _) (kk := ?_)
                refine gx_goto C 203 dd_Mo_follow_256 (kk := ?_)
                refine ihc (t + 1) L252 (by omega) (fun q hq2 => ?_) (fun q hq1 hq2 => ?_) (fun k hk => by rw [hL252, gm_un hk]; exact hLk k hk) (fun i hi => (vu_lo hL252 i hi).trans (hlo i hi))
                · rw [vu_at hL252]
                  by_cases hqt : q = t
                  · rw [if_pos hqt, hqt]
                    rw [hut, hw0]
                    rfl
                  · rw [if_neg hqt]
                    exact hdone q (by omega)
                · rw [vu_at hL252, if_neg (by omega)]
                  exact hrow q (by omega) hq2
          exact rests 16 0 L1 rfl (fun q hq2 => absurd hq2 (Nat.not_lt_zero _)) (fun q _ hq2 => hrow q hq2) hLk hlo
        | succ m ihb =>
          intro j s L1 hj hs hrow hLk hlo
          obtain ⟨x, hx⟩ : ∃ x, (am_ar A)[j]? = some x := ⟨_, List.getElem?_eq_getElem (by omega)⟩
          have hxa := (mo_is_k (fun _ _ => rfl) (fun k hk => hLk k (by omega)) hA).2.2.2.2.1 j x hx
          have hxb := hAb x (List.mem_of_getElem? hx)
          obtain ⟨hb1, hb2, hle⟩ := de_sk_b (label := lb) hvb (fun x hx => (hAb x hx).2) j (by omega)
          rw [← hs] at hb1 hb2 hle
          have hr0 : L1 64 (16 * k + x.1 / 1024) = am_e (vv (x.1 / 1024)) := (hlo _ (by omega)).trans (hT k vv hk _ (by omega))
          refine gx_iload C 0 dd_Mo_follow_45 (kk := ?_)
          refine gx_bipush (v := nI 65) C dd_Mo_follow_47 (kk := ?_)
          refine gx_iload_n C 3 dd_Mo_follow_49 (kk := ?_)
          refine gx_imul C dd_Mo_follow_50 (kk := ?_)
          refine gx_topi _ (pk_mul _ _) ?_
          refine gx_aload_n C 2 dd_Mo_follow_51 (kk := ?_)
          refine mo_get C fd_Mo_23 dd_Mo_follow_52 (kk := ?_)
          refine gx_iload_n C 3 dd_Mo_follow_55 (kk := ?_)
          refine mo_l48 C dd_Mo_follow_56 (by omega) (kk := ?_)
          refine gx_topi _ (mo_is_k (fun _ _ => rfl) (fun k hk => hLk k (by omega)) hA).2.2.2.1 ?_
          refine gx_iadd C dd_Mo_follow_57 (kk := ?_)
          refine gx_topi _ (nI_add _ _) ?_
          refine gx_icmp_ge C 194 dd_Mo_follow_58 (fun h58 => absurd h58 (nI_ge (by omega) (by omega))) (fun h58 => ?_)
          refine gx_aload_n C 2 dd_Mo_follow_61 (kk := ?_)
          refine mo_get C fd_Mo_72 dd_Mo_follow_62 (kk := ?_)
          refine gx_bipush (v := nI 16) C dd_Mo_follow_65 (kk := ?_)
          refine gx_iload_n C 4 dd_Mo_follow_67 (kk := ?_)
          refine gx_imul C dd_Mo_follow_68 (kk := ?_)
          refine gx_topi _ (pk_mul _ _) ?_
          refine gx_aload_n C 2 dd_Mo_follow_69 (kk := ?_)
          refine mo_get C fd_Mo_26 dd_Mo_follow_70 (kk := ?_)
          refine gx_iload C 0 dd_Mo_follow_73 (kk := ?_)
          refine mo_l49 C dd_Mo_follow_75 (by omega) (kk := ?_)
          refine gx_topi _ hxa.1 ?_
          refine gx_iadd C dd_Mo_follow_76 (kk := ?_)
          refine gx_topi _ (nI_add _ _) ?_
          refine mo_l64 C dd_Mo_follow_77 (by omega) (kk := ?_)
          refine gx_topl _ hr0 ?_
          refine gx_lstore C _ dd_Mo_follow_78 (kk := ?_)
          by_cases hlbl : x.1 / 128 % 8 = lb
          · refine gx_aload_n C 3 dd_Mo_follow_80 (kk := ?_)
            refine mo_get C fd_Mo_32 dd_Mo_follow_81 (kk := ?_)
            refine gx_iload C 1 dd_Mo_follow_84 (kk := ?_)
            refine mo_l51 C dd_Mo_follow_86 (by omega) (kk := ?_)
            refine gx_topi _ hxa.2.2.1 ?_
            refine gx_iload_n C 6 dd_Mo_follow_87 (kk := ?_)
            refine gx_icmp_ne C 188 dd_Mo_follow_88 (fun h88 => absurd (congrArg nI hlbl) h88) (fun h88 => ?_)
            rcases hvf : vv (x.1 / 1024) with _ | d
            · refine gx_lload C 0 dd_Mo_follow_91 (kk := ?_)
              refine gx_lconst (v := lN 0) C dd_Mo_follow_93 (kk := ?_)
              refine gx_lcmp C dd_Mo_follow_94 (kk := ?_)
              refine gx_if_lt C 188 dd_Mo_follow_95 (fun h95 => ?_) (fun h95 => absurd (by decide) h95)
              refine gx_iinc C 1 (nI (65 * ia + (j + 1))) _ dd_Mo_follow_188 (nI_1 _) (kk := ?_)
              refine gx_goto C 45 dd_Mo_follow_191 (kk := ?_)
              refine gx_loc [0, 2, 3, 4, 5, 6] ?_
              exact ihb (j + 1) s L1 (by omega) (by rw [de_sk_s hx, ← hs, de_r_n (fun c => by have := c.2; rw [hvf] at this; simp [ls_ad, ls_lt] at this)]) hrow hLk hlo
            · have hdb := hvb _ _ hvf
              refine gx_lload C 0 dd_Mo_follow_91 (kk := ?_)
              refine gx_lconst (v := lN 0) C dd_Mo_follow_93 (kk := ?_)
              refine gx_lcmp C dd_Mo_follow_94 (kk := ?_)
              refine gx_if_lt C 188 dd_Mo_follow_95 (fun h95 => absurd (lc_lt.mp h95) (by show ¬ lN d < lN 0; rw [pk_lLT (by omega) (by decide)]; omega)) (fun h95 => ?_)
              refine gx_lload C 0 dd_Mo_follow_98 (kk := ?_)
              refine gx_topl (lN d) rfl ?_
              refine gx_aload_n C 3 dd_Mo_follow_100 (kk := ?_)
              refine mo_get C fd_Mo_38 dd_Mo_follow_101 (kk := ?_)
              refine gx_iload C 1 dd_Mo_follow_104 (kk := ?_)
              refine mo_l53 C dd_Mo_follow_106 (by omega) (kk := ?_)
              refine gx_topl _ hxa.2.2.2.2 ?_
              refine gx_ladd C dd_Mo_follow_107 (kk := ?_)
              refine gx_topl _ (lN_add _ _) ?_
              refine gx_lstore C _ dd_Mo_follow_108 (kk := ?_)
              refine gx_bipush (v := nI 16) C dd_Mo_follow_110 (kk := ?_)
              refine gx_aload_n C 4 dd_Mo_follow_112 (kk := ?_)
              refine mo_get C fd_Mo_103 dd_Mo_follow_113 (kk := ?_)
              refine gx_topi _ hS ?_
              refine gx_imul C dd_Mo_follow_116 (kk := ?_)
              refine gx_topi _ (pk_mul _ _) ?_
              refine gx_aload_n C 4 dd_Mo_follow_117 (kk := ?_)
              refine mo_get C fd_Mo_29 dd_Mo_follow_118 (kk := ?_)
              refine gx_iload C 2 dd_Mo_follow_121 (kk := ?_)
              refine mo_l50 C dd_Mo_follow_123 (by omega) (kk := ?_)
              refine gx_topi _ hxa.2.1 ?_
              refine gx_iadd C dd_Mo_follow_124 (kk := ?_)
              refine gx_topi _ (nI_add _ _) ?_
              refine gx_istore C _ dd_Mo_follow_125 (kk := ?_)
              have ht0 := hrow (x.1 % 16) (by omega)
              rcases hut : s.1 (x.1 % 16) with _ | e
              · rw [hut] at ht0
                refine gx_aload_n C 5 dd_Mo_follow_127 (kk := ?_)
                refine mo_get C fd_Mo_72 dd_Mo_follow_128 (kk := ?_)
                refine gx_iload C 0 dd_Mo_follow_131 (kk := ?_)
                refine gx_aload_n C 5 dd_Mo_follow_133 (kk := ?_)
                refine mo_get C fd_Mo_72 dd_Mo_follow_134 (kk := ?_)
                refine gx_iload C 0 dd_Mo_follow_137 (kk := ?_)
                refine mo_l64 C dd_Mo_follow_139 (by omega) (kk := ?_)
                refine gx_topl (-1) ht0 ?_
                refine gx_lconst (v := lN 0) C dd_Mo_follow_140 (kk := ?_)
                refine gx_lcmp C dd_Mo_follow_141 (kk := ?_)
                refine gx_if_lt C 158 dd_Mo_follow_142 (fun h142 => ?_) (fun h142 => absurd (by decide) h142)
                refine gx_lload C 1 dd_Mo_follow_158 (kk := ?_)
                refine gx_goto C 170 dd_Mo_follow_160 (kk := ?_)
                refine mo_s64 C dd_Mo_follow_170 (by omega) (kk := fun L170 hL170 => ?_)
                have hlt : ls_lt (ls_ad (vv (x.1 / 1024)) x.2) (s.1 (x.1 % 16)) = true := by
                  rw [hvf, hut]
                  rfl
                have hadv : ls_ad (vv (x.1 / 1024)) x.2 = some (d + x.2) := by
                  rw [hvf]
                  rfl
                refine gx_lload C 1 dd_Mo_follow_171 (kk := ?_)
                refine gx_lload C 4 dd_Mo_follow_173 (kk := ?_)
                refine gx_lcmp C dd_Mo_follow_175 (kk := ?_)
                refine gx_if_ge C 184 dd_Mo_follow_176 (fun h176 => ?_) (fun h176 => ?_)
                · refine gx_lload C 4 dd_Mo_follow_184 (kk := ?_)
                  refine gx_topl (mf (de_r vv lb s x).2) ?_ ?_
                  · rw [lc_ge, ← Int64.not_lt, show lN (d + x.2) = mf (some (d + x.2)) from rfl, mf_lt (fun y hy => by cases hy; omega) (fun y hy => by have := hb2 y hy; omega)] at h176
                    rw [de_r_y ⟨hlbl, hlt⟩, hadv]
                    show _ = mf (om s.2 (some (d + x.2)))
                    rw [om_n h176]
                  refine gx_lstore C _ dd_Mo_follow_186 (kk := ?_)
                  refine gx_iinc C 4 (nI (65 * ia + (j + 1))) _ dd_Mo_follow_188 (nI_1 _) (kk := ?_)
                  refine gx_goto C 45 dd_Mo_follow_191 (kk := ?_)
                  refine gx_loc [0, 1, 5, 6, 7, 8] ?_
                  refine ihb (j + 1) (de_r vv lb s x) L170 (by omega) (by rw [de_sk_s hx, ← hs]) (fun q hq2 => ?_) (fun k hk => by rw [hL170, gm_un hk]; exact hLk k hk) (fun i hi => (vu_lo hL170 i hi).trans (hlo i hi))
                  rw [de_r_y ⟨hlbl, hlt⟩, hadv]
                  show _ = am_e (va_up s.1 (x.1 % 16) (some (d + x.2)) q)
                  rw [vu_at hL170]
                  by_cases hqt : q = x.1 % 16
                  · rw [if_pos hqt, hqt, gm_us]
                    rfl
                  · rw [if_neg hqt, gm_un hqt]
                    exact hrow q hq2
                · refine gx_lload C 1 dd_Mo_follow_179 (kk := ?_)
                  refine gx_goto C 186 dd_Mo_follow_181 (kk := ?_)
                  refine gx_topl (mf (de_r vv lb s x).2) ?_ ?_
                  · rw [lc_ge, ← Int64.not_lt, Classical.not_not, show lN (d + x.2) = mf (some (d + x.2)) from rfl, mf_lt (fun y hy => by cases hy; omega) (fun y hy => by have := hb2 y hy; omega)] at h176
                    rw [de_r_y ⟨hlbl, hlt⟩, hadv]
                    show _ = mf (om s.2 (some (d + x.2)))
                    rw [om_y h176]
                    rfl
                  refine gx_lstore C _ dd_Mo_follow_186 (kk := ?_)
                  refine gx_iinc C 4 (nI (65 * ia + (j + 1))) _ dd_Mo_follow_188 (nI_1 _) (kk := ?_)
                  refine gx_goto C 45 dd_Mo_follow_191 (kk := ?_)
                  refine gx_loc [0, 1, 5, 6, 7, 8] ?_
                  refine ihb (j + 1) (de_r vv lb s x) L170 (by omega) (by rw [de_sk_s hx, ← hs]) (fun q hq2 => ?_) (fun k hk => by rw [hL170, gm_un hk]; exact hLk k hk) (fun i hi => (vu_lo hL170 i hi).trans (hlo i hi))
                  rw [de_r_y ⟨hlbl, hlt⟩, hadv]
                  show _ = am_e (va_up s.1 (x.1 % 16) (some (d + x.2)) q)
                  rw [vu_at hL170]
                  by_cases hqt : q = x.1 % 16
                  · rw [if_pos hqt, hqt, gm_us]
                    rfl
                  · rw [if_neg hqt, gm_un hqt]
                    exact hrow q hq2
              · rw [hut] at ht0
                have heb := hb1 _ _ hut
                refine gx_aload_n C 5 dd_Mo_follow_127 (kk := ?_)
                refine mo_get C fd_Mo_72 dd_Mo_follow_128 (kk := ?_)
                refine gx_iload C 0 dd_Mo_follow_131 (kk := ?_)
                refine gx_aload_n C 5 dd_Mo_follow_133 (kk := ?_)
                refine mo_get C fd_Mo_72 dd_Mo_follow_134 (kk := ?_)
                refine gx_iload C 0 dd_Mo_follow_137 (kk := ?_)
                refine mo_l64 C dd_Mo_follow_139 (by omega) (kk := ?_)
                refine gx_topl (lN e) ht0 ?_
                refine gx_lconst (v := lN 0) C dd_Mo_follow_140 (kk := ?_)
                refine gx_lcmp C dd_Mo_follow_141 (kk := ?_)
                refine gx_if_lt C 158 dd_Mo_follow_142 (fun h142 => absurd (lc_lt.mp h142) (by show ¬ lN e < lN 0; rw [pk_lLT (by omega) (by decide)]; omega)) (fun h142 => ?_)
                refine gx_lload C 1 dd_Mo_follow_145 (kk := ?_)
                refine gx_aload_n C 5 dd_Mo_follow_147 (kk := ?_)
                refine mo_get C fd_Mo_72 dd_Mo_follow_148 (kk := ?_)
                refine gx_iload C 0 dd_Mo_follow_151 (kk := ?_)
                refine mo_l64 C dd_Mo_follow_153 (by omega) (kk := ?_)
                refine gx_topl (lN e) ht0 ?_
                refine gx_lcmp C dd_Mo_follow_154 (kk := ?_)
                refine gx_if_ge C 163 dd_Mo_follow_155 (fun h155 => ?_) (fun h155 => ?_)
                · refine gx_aload_n C 5 dd_Mo_follow_163 (kk := ?_)
                  refine mo_get C fd_Mo_72 dd_Mo_follow_164 (kk := ?_)
                  refine gx_iload C 0 dd_Mo_follow_167 (kk := ?_)
                  refine mo_l64 C dd_Mo_follow_169 (by omega) (kk := ?_)
                  refine gx_topl (lN e) ht0 ?_
                  refine mo_s64 C dd_Mo_follow_170 (by omega) (kk := fun L170 hL170 => ?_)
                  rw [lc_ge, pk_lLE (by omega) (by omega)] at h155
                  have hlt : ¬ ls_lt (ls_ad (vv (x.1 / 1024)) x.2) (s.1 (x.1 % 16)) = true := by
                    rw [hvf, hut]
                    exact fun c => absurd (of_decide_eq_true c) (show ¬ d + x.2 < e by omega)
                  have hadv : ls_ad (vv (x.1 / 1024)) x.2 = some (d + x.2) := by
                    rw [hvf]
                    rfl
                  refine gx_lload C 1 dd_Mo_follow_171 (kk := ?_)
                  refine gx_lload C 4 dd_Mo_follow_173 (kk := ?_)
                  refine gx_lcmp C dd_Mo_follow_175 (kk := ?_)
                  refine gx_if_ge C 184 dd_Mo_follow_176 (fun h176 => ?_) (fun h176 => ?_)
                  · refine gx_lload C 4 dd_Mo_follow_184 (kk := ?_)
                    refine gx_topl (mf (de_r vv lb s x).2) ?_ ?_
                    · rw [de_r_n (fun c => hlt c.2)]
                    refine gx_lstore C _ dd_Mo_follow_186 (kk := ?_)
                    refine gx_iinc C 4 (nI (65 * ia + (j + 1))) _ dd_Mo_follow_188 (nI_1 _) (kk := ?_)
                    refine gx_goto C 45 dd_Mo_follow_191 (kk := ?_)
                    refine gx_loc [0, 1, 5, 6, 7, 8] ?_
                    refine ihb (j + 1) (de_r vv lb s x) L170 (by omega) (by rw [de_sk_s hx, ← hs]) (fun q hq2 => ?_) (fun k hk => by rw [hL170, gm_un hk]; exact hLk k hk) (fun i hi => (vu_lo hL170 i hi).trans (hlo i hi))
                    rw [de_r_n (fun c => hlt c.2), vu_at hL170]
                    by_cases hqt : q = x.1 % 16
                    · rw [if_pos hqt, hqt, hut]
                      rfl
                    · rw [if_neg hqt]
                      exact hrow q hq2
                  · refine gx_lload C 1 dd_Mo_follow_179 (kk := ?_)
                    refine gx_goto C 186 dd_Mo_follow_181 (kk := ?_)
                    refine gx_topl (mf (de_r vv lb s x).2) ?_ ?_
                    · rw [lc_ge, ← Int64.not_lt, Classical.not_not, show lN (d + x.2) = mf (some (d + x.2)) from rfl, mf_lt (fun y hy => by cases hy; omega) (fun y hy => by have := hb2 y hy; omega)] at h176
                      exfalso
                      obtain ⟨l0, hl0, hl1⟩ := hle _ _ hut
                      rw [hl0] at h176
                      have := of_decide_eq_true (show decide (d + x.2 < l0) = true from h176)
                      omega
                    refine gx_lstore C _ dd_Mo_follow_186 (kk := ?_)
                    refine gx_iinc C 4 (nI (65 * ia + (j + 1))) _ dd_Mo_follow_188 (nI_1 _) (kk := ?_)
                    refine gx_goto C 45 dd_Mo_follow_191 (kk := ?_)
                    refine gx_loc [0, 1, 5, 6, 7, 8] ?_
                    refine ihb (j + 1) (de_r vv lb s x) L170 (by omega) (by rw [de_sk_s hx, ← hs]) (fun q hq2 => ?_) (fun k hk => by rw [hL170, gm_un hk]; exact hLk k hk) (fun i hi => (vu_lo hL170 i hi).trans (hlo i hi))
                    rw [de_r_n (fun c => hlt c.2), vu_at hL170]
                    by_cases hqt : q = x.1 % 16
                    · rw [if_pos hqt, hqt, hut]
                      rfl
                    · rw [if_neg hqt]
                      exact hrow q hq2
                · refine gx_lload C 1 dd_Mo_follow_158 (kk := ?_)
                  refine gx_goto C 170 dd_Mo_follow_160 (kk := ?_)
                  refine mo_s64 C dd_Mo_follow_170 (by omega) (kk := fun L170 hL170 => ?_)
                  rw [lc_ge, pk_lLE (by omega) (by omega)] at h155
                  have hlt : ls_lt (ls_ad (vv (x.1 / 1024)) x.2) (s.1 (x.1 % 16)) = true := by
                    rw [hvf, hut]
                    exact decide_eq_true (show d + x.2 < e by omega)
                  have hadv : ls_ad (vv (x.1 / 1024)) x.2 = some (d + x.2) := by
                    rw [hvf]
                    rfl
                  refine gx_lload C 1 dd_Mo_follow_171 (kk := ?_)
                  refine gx_lload C 4 dd_Mo_follow_173 (kk := ?_)
                  refine gx_lcmp C dd_Mo_follow_175 (kk := ?_)
                  refine gx_if_ge C 184 dd_Mo_follow_176 (fun h176 => ?_) (fun h176 => ?_)
                  · refine gx_lload C 4 dd_Mo_follow_184 (kk := ?_)
                    refine gx_topl (mf (de_r vv lb s x).2) ?_ ?_
                    · rw [lc_ge, ← Int64.not_lt, show lN (d + x.2) = mf (some (d + x.2)) from rfl, mf_lt (fun y hy => by cases hy; omega) (fun y hy => by have := hb2 y hy; omega)] at h176
                      rw [de_r_y ⟨hlbl, hlt⟩, hadv]
                      show _ = mf (om s.2 (some (d + x.2)))
                      rw [om_n h176]
                    refine gx_lstore C _ dd_Mo_follow_186 (kk := ?_)
                    refine gx_iinc C 4 (nI (65 * ia + (j + 1))) _ dd_Mo_follow_188 (nI_1 _) (kk := ?_)
                    refine gx_goto C 45 dd_Mo_follow_191 (kk := ?_)
                    refine gx_loc [0, 1, 5, 6, 7, 8] ?_
                    refine ihb (j + 1) (de_r vv lb s x) L170 (by omega) (by rw [de_sk_s hx, ← hs]) (fun q hq2 => ?_) (fun k hk => by rw [hL170, gm_un hk]; exact hLk k hk) (fun i hi => (vu_lo hL170 i hi).trans (hlo i hi))
                    rw [de_r_y ⟨hlbl, hlt⟩, hadv]
                    show _ = am_e (va_up s.1 (x.1 % 16) (some (d + x.2)) q)
                    rw [vu_at hL170]
                    by_cases hqt : q = x.1 % 16
                    · rw [if_pos hqt, hqt, gm_us]
                      rfl
                    · rw [if_neg hqt, gm_un hqt]
                      exact hrow q hq2
                  · refine gx_lload C 1 dd_Mo_follow_179 (kk := ?_)
                    refine gx_goto C 186 dd_Mo_follow_181 (kk := ?_)
                    refine gx_topl (mf (de_r vv lb s x).2) ?_ ?_
                    · rw [lc_ge, ← Int64.not_lt, Classical.not_not, show lN (d + x.2) = mf (some (d + x.2)) from rfl, mf_lt (fun y hy => by cases hy; omega) (fun y hy => by have := hb2 y hy; omega)] at h176
                      rw [de_r_y ⟨hlbl, hlt⟩, hadv]
                      show _ = mf (om s.2 (some (d + x.2)))
                      rw [om_y h176]
                      rfl
                    refine gx_lstore C _ dd_Mo_follow_186 (kk := ?_)
                    refine gx_iinc C 4 (nI (65 * ia + (j + 1))) _ dd_Mo_follow_188 (nI_1 _) (kk := ?_)
                    refine gx_goto C 45 dd_Mo_follow_191 (kk := ?_)
                    refine gx_loc [0, 1, 5, 6, 7, 8] ?_
                    refine ihb (j + 1) (de_r vv lb s x) L170 (by omega) (by rw [de_sk_s hx, ← hs]) (fun q hq2 => ?_) (fun k hk => by rw [hL170, gm_un hk]; exact hLk k hk) (fun i hi => (vu_lo hL170 i hi).trans (hlo i hi))
                    rw [de_r_y ⟨hlbl, hlt⟩, hadv]
                    show _ = am_e (va_up s.1 (x.1 % 16) (some (d + x.2)) q)
                    rw [vu_at hL170]
                    by_cases hqt : q = x.1 % 16
                    · rw [if_pos hqt, hqt, gm_us]
                      rfl
                    · rw [if_neg hqt, gm_un hqt]
                      exact hrow q hq2
          · refine gx_aload_n C 3 dd_Mo_follow_80 (kk := ?_)
            refine mo_get C fd_Mo_32 dd_Mo_follow_81 (kk := ?_)
            refine gx_iload C 1 dd_Mo_follow_84 (kk := ?_)
            refine mo_l51 C dd_Mo_follow_86 (by omega) (kk := ?_)
            refine gx_topi _ hxa.2.2.1 ?_
            refine gx_iload_n C 6 dd_Mo_follow_87 (kk := ?_)
            refine gx_icmp_ne C 188 dd_Mo_follow_88 (fun h88 => ?_) (fun h88 => absurd ((nI_eq (by omega) (by omega)).mp h88) hlbl)
            refine gx_iinc C 1 (nI (65 * ia + (j + 1))) _ dd_Mo_follow_188 (nI_1 _) (kk := ?_)
            refine gx_goto C 45 dd_Mo_follow_191 (kk := ?_)
            refine gx_loc [0, 2, 3, 4, 5, 6] ?_
            exact ihb (j + 1) s L1 (by omega) (by rw [de_sk_s hx, ← hs, de_r_n (fun c => hlbl c.1)]) hrow hLk hlo
      exact arcs (am_ar A).length 0 ((fun _ => none), none) L1 (by omega) rfl (fun q hq2 => hf q (by omega)) hLk hlo
    | succ m ih =>
      intro q L1 hq0 hf hLk hlo
      refine gx_iload C 0 dd_Mo_follow_8 (kk := ?_)
      refine gx_bipush (v := nI 16) C dd_Mo_follow_10 (kk := ?_)
      refine gx_icmp_ge C 39 dd_Mo_follow_12 (fun h12 => absurd h12 (nI_ge (by omega) (by omega))) (fun h12 => ?_)
      refine gx_aload_n C 2 dd_Mo_follow_15 (kk := ?_)
      refine mo_get C fd_Mo_72 dd_Mo_follow_16 (kk := ?_)
      refine gx_bipush (v := nI 16) C dd_Mo_follow_19 (kk := ?_)
      refine gx_aload_n C 2 dd_Mo_follow_21 (kk := ?_)
      refine mo_get C fd_Mo_103 dd_Mo_follow_22 (kk := ?_)
      refine gx_topi _ hS ?_
      refine gx_imul C dd_Mo_follow_25 (kk := ?_)
      refine gx_topi _ (pk_mul _ _) ?_
      refine gx_iload C 0 dd_Mo_follow_26 (kk := ?_)
      refine gx_iadd C dd_Mo_follow_28 (kk := ?_)
      refine gx_topi _ (nI_add _ _) ?_
      refine gx_ldc2 C dd_Mo_follow_29 kc_Mo_79 (kk := ?_)
      refine mo_s64 C dd_Mo_follow_32 (by omega) (kk := fun L32 hL32 => ?_)
      refine gx_iinc C 0 (nI (q + 1)) _ dd_Mo_follow_33 (nI_1 _) (kk := ?_)
      refine gx_goto C 8 dd_Mo_follow_36 (kk := ?_)
      refine ih (q + 1) L32 (by omega) (fun s hs => ?_) (fun k hk => by rw [hL32, gm_un hk]; exact hLk k hk) (fun i hi => (vu_lo hL32 i hi).trans (hlo i hi))
      rw [vu_at hL32]
      by_cases hsq : s = q
      · rw [if_pos hsq]
      · rw [if_neg hsq]
        exact hf s (by omega)
  refine gx_ldc2 C dd_Mo_follow_0 kc_Mo_129 (kk := ?_)
  refine gx_lstore C _ dd_Mo_follow_3 (kk := ?_)
  refine gx_iconst (v := nI 0) C dd_Mo_follow_5 (kk := ?_)
  refine gx_istore C _ dd_Mo_follow_6 (kk := ?_)
  exact fill 16 0 L rfl (fun s hs => absurd hs (Nat.not_lt_zero _)) (fun _ _ => rfl) (fun _ _ => rfl)
def de_q (t u : ls_V) (q : Nat) : Bool := (List.range q).all (fun s => decide (t s = u s))
theorem de_q_s (t u : ls_V) (q : Nat) : de_q t u (q + 1) = (de_q t u q && decide (t q = u q)) := by
  unfold de_q
  rw [List.range_succ, List.all_append]
  simp
set_option maxRecDepth 100000 in
set_option maxHeartbeats 4000000 in
theorem ct_Mo_settle (l : Launch) (D : va_G) (dA : Nat → ClassId) (ad : Nat → Nat) (h : Nat → va_E) (F : mo_F) (L : mo_L) (S : Nat → Int32) {T : List ls_V} {u : ls_V} (hS : S 27 = nI T.length) (hT16 : T.length ≤ 16) (hT : mrs L T) (hTb : ∀ (k : Nat) (t : ls_V), T[k]? = some t → sp_b 400000000000000000 t) (hu : ∀ q, q < 16 → L 64 (16 * T.length + q) = am_e (u q)) (hub : sp_b 400000000000000000 u) : gx_Ct l D dA yy_Mo_settle cc_Mo_settle 4 (some .int) 0 0 0 [.ref (ad 43)] (gx_w ad (mo_h dA ad h F L S)) (fun v w => (∃ y, de_fd u T = some y ∧ v = some (.int (nI y.1)) ∧ ∃ S2, w = (gx_w ad (mo_h dA ad h F L S2)) ∧ S2 27 = nI y.2.length ∧ (∀ k, k ≠ 27 → S2 k = S k) ∧ y.1 < 16 ∧ mrs L y.2 ∧ y.2.length ≤ 16) ∨ (de_fd u T = none ∧ v = some (.int (-1)) ∧ w = (gx_w ad (mo_h dA ad h F L S)))) := by
  refine gx_of (by decide) (Nat.le_of_ble_eq_true rfl) (fun K C _ _ => ?_)
  have loop : ∀ m k, k + m = T.length → (∀ k2 w2, k2 < k → T[k2]? = some w2 → de_eq w2 u = false) → gx_G K D 4 0 0 2 [(1, .int (nI k)), (0, .ref (ad 43))] [] (gx_w ad (mo_h dA ad h F L S)) (gx_Z K D dA 0 0 (fun v w => (∃ y, de_fd u T = some y ∧ v = some (.int (nI y.1)) ∧ ∃ S2, w = (gx_w ad (mo_h dA ad h F L S2)) ∧ S2 27 = nI y.2.length ∧ (∀ k, k ≠ 27 → S2 k = S k) ∧ y.1 < 16 ∧ mrs L y.2 ∧ y.2.length ≤ 16) ∨ (de_fd u T = none ∧ v = some (.int (-1)) ∧ w = (gx_w ad (mo_h dA ad h F L S))))) := by
    intro m
    induction m with
    | zero =>
      intro k hk hno
      refine gx_iload_n C 0 dd_Mo_settle_2 (kk := ?_)
      refine gx_aload_n C 1 dd_Mo_settle_3 (kk := ?_)
      refine mo_get C fd_Mo_103 dd_Mo_settle_4 (kk := ?_)
      refine gx_topi _ hS ?_
      refine gx_icmp_ge C 77 dd_Mo_settle_7 (fun h7 => ?_) (fun h7 => absurd (nI_le (a := T.length) (b := k) (by omega) (by omega)) h7)
      refine gx_aload_n C 1 dd_Mo_settle_77 (kk := ?_)
      refine mo_get C fd_Mo_103 dd_Mo_settle_78 (kk := ?_)
      refine gx_topi _ hS ?_
      refine gx_bipush (v := nI 16) C dd_Mo_settle_81 (kk := ?_)
      refine gx_icmp_ne C 88 dd_Mo_settle_83 (fun h83 => ?_) (fun h83 => ?_)
      · refine gx_aload_n C 1 dd_Mo_settle_88 (kk := ?_)
        refine gx_dup C dd_Mo_settle_89 (kk := ?_)
        refine mo_get C fd_Mo_103 dd_Mo_settle_90 (kk := ?_)
        refine gx_topi _ hS ?_
        refine gx_iconst (v := nI 1) C dd_Mo_settle_93 (kk := ?_)
        refine gx_iadd C dd_Mo_settle_94 (kk := ?_)
        refine gx_topi _ (nI_add _ _) ?_
        refine mo_put_27 C fw_Mo_103 dd_Mo_settle_95 (kk := fun S95 hS95 => ?_)
        refine gx_aload_n C 1 dd_Mo_settle_98 (kk := ?_)
        refine mo_get C fd_Mo_103 dd_Mo_settle_99 (kk := ?_)
        refine gx_topi (nI (T.length + 1)) (by rw [hS95, gm_us]) ?_
        refine gx_iconst (v := nI 1) C dd_Mo_settle_102 (kk := ?_)
        refine gx_isub C dd_Mo_settle_103 (kk := ?_)
        refine gx_topi (nI T.length) (pk_sub (a := T.length + 1) (b := 1) (by omega)) ?_
        refine gx_iret C dd_Mo_settle_104 ?_
        rw [nI_eq (by omega) (by decide)] at h83
        refine Or.inl ⟨(T.length, T ++ [u]), by rw [de_fd_no (fun k2 w2 hk2 => hno k2 w2 (by omega)), if_pos (by omega)], rfl, S95, rfl, ?_, fun k hk => by rw [hS95, gm_un hk], by show T.length < 16; omega, ?_, ?_⟩
        · rw [hS95, gm_us]
          show nI (T.length + 1) = nI (T ++ [u]).length
          rw [List.length_append]
          rfl
        · intro k2 v2 hk2
          have hk2 : (T ++ [u])[k2]? = some v2 := hk2
          rw [List.getElem?_append] at hk2
          by_cases hkl : k2 < T.length
          · rw [if_pos hkl] at hk2
            exact hT k2 v2 hk2
          · rw [if_neg hkl] at hk2
            have hk3 : k2 - T.length < 1 := (List.getElem?_eq_some_iff.mp hk2).1
            rw [show k2 - T.length = 0 by omega] at hk2
            cases hk2
            rw [show k2 = T.length by omega]
            exact hu
        · show (T ++ [u]).length ≤ 16
          rw [List.length_append]
          show T.length + 1 ≤ 16
          omega
      · refine gx_iconst (v := -1) C dd_Mo_settle_86 (kk := ?_)
        refine gx_iret C dd_Mo_settle_87 ?_
        rw [nI_eq (by omega) (by decide)] at h83
        exact Or.inr ⟨by rw [de_fd_no (fun k2 w2 hk2 => hno k2 w2 (by omega)), if_neg (by omega)], rfl, rfl⟩
    | succ m ih =>
      intro k hk hno
      refine gx_iload_n C 0 dd_Mo_settle_2 (kk := ?_)
      refine gx_aload_n C 1 dd_Mo_settle_3 (kk := ?_)
      refine mo_get C fd_Mo_103 dd_Mo_settle_4 (kk := ?_)
      refine gx_topi _ hS ?_
      refine gx_icmp_ge C 77 dd_Mo_settle_7 (fun h7 => absurd h7 (nI_ge (by omega) (by omega))) (fun h7 => ?_)
      refine gx_iconst (v := nI 1) C dd_Mo_settle_10 (kk := ?_)
      refine gx_istore_n C _ dd_Mo_settle_11 (kk := ?_)
      refine gx_iconst (v := nI 0) C dd_Mo_settle_12 (kk := ?_)
      refine gx_istore_n C _ dd_Mo_settle_13 (kk := ?_)
      obtain ⟨t, hkt⟩ : ∃ t, T[k]? = some t := ⟨_, List.getElem?_eq_getElem (by omega)⟩
      have htb := hTb k t hkt
      have same : ∀ m2 q, q + m2 = 16 → gx_G K D 4 0 0 14 [(3, .int (nI q)), (2, .int (nI (de_q t u q).toNat)), (1, .int (nI k)), (0, .ref (ad 43))] [] (gx_w ad (mo_h dA ad h F L S)) (gx_Z K D dA 0 0 (fun v w => (∃ y, de_fd u T = some y ∧ v = some (.int (nI y.1)) ∧ ∃ S2, w = (gx_w ad (mo_h dA ad h F L S2)) ∧ S2 27 = nI y.2.length ∧ (∀ k, k ≠ 27 → S2 k = S k) ∧ y.1 < 16 ∧ mrs L y.2 ∧ y.2.length ≤ 16) ∨ (de_fd u T = none ∧ v = some (.int (-1)) ∧ w = (gx_w ad (mo_h dA ad h F L S))))) := by
        intro m2
        induction m2 with
        | zero =>
          intro q hq0
          refine gx_iload_n C 0 dd_Mo_settle_14 (kk := ?_)
          refine gx_bipush (v := nI 16) C dd_Mo_settle_15 (kk := ?_)
          refine gx_icmp_ge C 65 dd_Mo_settle_17 (fun h17 => ?_) (fun h17 => absurd (nI_le (a := 16) (b := q) (by omega) (by omega)) h17)
          obtain rfl : q = 16 := by omega
          rcases hde : de_eq t u with _ | _
          · refine gx_iload_n C 1 dd_Mo_settle_65 (kk := ?_)
            refine gx_if_eq C 71 dd_Mo_settle_66 (fun h66 => ?_) (fun h66 => absurd (show nI (de_q t u 16).toNat = 0 from fb_0.mpr hde) h66)
            refine gx_iinc C 2 (nI (k + 1)) _ dd_Mo_settle_71 (nI_1 _) (kk := ?_)
            refine gx_goto C 2 dd_Mo_settle_74 (kk := ?_)
            refine gx_loc [0, 3] ?_
            exact ih (k + 1) (by omega) (fun k2 w2 hk2 hw2 => by
              by_cases he : k2 = k
              · subst he
                rw [hkt] at hw2
                cases hw2
                exact hde
              · exact hno k2 w2 (by omega) hw2)
          · refine gx_iload_n C 1 dd_Mo_settle_65 (kk := ?_)
            refine gx_if_eq C 71 dd_Mo_settle_66 (fun h66 => absurd (show true = false from hde.symm.trans (fb_0.mp h66)) (by decide)) (fun h66 => ?_)
            refine gx_iload_n C 2 dd_Mo_settle_69 (kk := ?_)
            refine gx_iret C dd_Mo_settle_70 ?_
            exact Or.inl ⟨(k, T), de_fd_at hkt hde hno, rfl, S, rfl, hS, fun _ _ => rfl, by show k < 16; omega, hT, hT16⟩
        | succ m2 ihq =>
          intro q hq0
          refine gx_iload_n C 0 dd_Mo_settle_14 (kk := ?_)
          refine gx_bipush (v := nI 16) C dd_Mo_settle_15 (kk := ?_)
          refine gx_icmp_ge C 65 dd_Mo_settle_17 (fun h17 => absurd h17 (nI_ge (by omega) (by omega))) (fun h17 => ?_)
          rcases hb : de_q t u q with _ | _
          · refine gx_iload_n C 1 dd_Mo_settle_20 (kk := ?_)
            refine gx_if_eq C 57 dd_Mo_settle_21 (fun h21 => ?_) (fun h21 => absurd rfl h21)
            refine gx_iconst (v := nI 0) C dd_Mo_settle_57 (kk := ?_)
            refine gx_topi (nI (de_q t u (q + 1)).toNat) (by
              rw [de_q_s, hb]
              rfl) ?_
            refine gx_istore_n C _ dd_Mo_settle_58 (kk := ?_)
            refine gx_iinc C 1 (nI (q + 1)) _ dd_Mo_settle_59 (nI_1 _) (kk := ?_)
            refine gx_goto C 14 dd_Mo_settle_62 (kk := ?_)
            exact ihq (q + 1) (by omega)
          · refine gx_iload_n C 1 dd_Mo_settle_20 (kk := ?_)
            refine gx_if_eq C 57 dd_Mo_settle_21 (fun h21 => absurd (show true = false from fb_0.mp h21) (by decide)) (fun h21 => ?_)
            have ht0 := hT k t hkt q (by omega)
            have hu0 := hu q (by omega)
            by_cases htq : t q = u q
            · refine gx_aload_n C 3 dd_Mo_settle_24 (kk := ?_)
              refine mo_get C fd_Mo_72 dd_Mo_settle_25 (kk := ?_)
              refine gx_bipush (v := nI 16) C dd_Mo_settle_28 (kk := ?_)
              refine gx_iload_n C 2 dd_Mo_settle_30 (kk := ?_)
              refine gx_imul C dd_Mo_settle_31 (kk := ?_)
              refine gx_topi _ (pk_mul _ _) ?_
              refine gx_iload_n C 0 dd_Mo_settle_32 (kk := ?_)
              refine gx_iadd C dd_Mo_settle_33 (kk := ?_)
              refine gx_topi _ (nI_add _ _) ?_
              refine mo_l64 C dd_Mo_settle_34 (by omega) (kk := ?_)
              refine gx_topl _ ht0 ?_
              refine gx_aload_n C 3 dd_Mo_settle_35 (kk := ?_)
              refine mo_get C fd_Mo_72 dd_Mo_settle_36 (kk := ?_)
              refine gx_bipush (v := nI 16) C dd_Mo_settle_39 (kk := ?_)
              refine gx_aload_n C 3 dd_Mo_settle_41 (kk := ?_)
              refine mo_get C fd_Mo_103 dd_Mo_settle_42 (kk := ?_)
              refine gx_topi _ hS ?_
              refine gx_imul C dd_Mo_settle_45 (kk := ?_)
              refine gx_topi _ (pk_mul _ _) ?_
              refine gx_iload_n C 0 dd_Mo_settle_46 (kk := ?_)
              refine gx_iadd C dd_Mo_settle_47 (kk := ?_)
              refine gx_topi _ (nI_add _ _) ?_
              refine mo_l64 C dd_Mo_settle_48 (by omega) (kk := ?_)
              refine gx_topl _ hu0 ?_
              refine gx_lcmp C dd_Mo_settle_49 (kk := ?_)
              refine gx_if_ne C 57 dd_Mo_settle_50 (fun h50 => absurd (lc_eq.mpr (by rw [htq])) h50) (fun h50 => ?_)
              refine gx_iconst (v := nI 1) C dd_Mo_settle_53 (kk := ?_)
              refine gx_goto C 58 dd_Mo_settle_54 (kk := ?_)
              refine gx_topi (nI (de_q t u (q + 1)).toNat) (by
                rw [de_q_s, hb, decide_eq_true htq]
                rfl) ?_
              refine gx_istore_n C _ dd_Mo_settle_58 (kk := ?_)
              refine gx_iinc C 1 (nI (q + 1)) _ dd_Mo_settle_59 (nI_1 _) (kk := ?_)
              refine gx_goto C 14 dd_Mo_settle_62 (kk := ?_)
              exact ihq (q + 1) (by omega)
            · refine gx_aload_n C 3 dd_Mo_settle_24 (kk := ?_)
              refine mo_get C fd_Mo_72 dd_Mo_settle_25 (kk := ?_)
              refine gx_bipush (v := nI 16) C dd_Mo_settle_28 (kk := ?_)
              refine gx_iload_n C 2 dd_Mo_settle_30 (kk := ?_)
              refine gx_imul C dd_Mo_settle_31 (kk := ?_)
              refine gx_topi _ (pk_mul _ _) ?_
              refine gx_iload_n C 0 dd_Mo_settle_32 (kk := ?_)
              refine gx_iadd C dd_Mo_settle_33 (kk := ?_)
              refine gx_topi _ (nI_add _ _) ?_
              refine mo_l64 C dd_Mo_settle_34 (by omega) (kk := ?_)
              refine gx_topl _ ht0 ?_
              refine gx_aload_n C 3 dd_Mo_settle_35 (kk := ?_)
              refine mo_get C fd_Mo_72 dd_Mo_settle_36 (kk := ?_)
              refine gx_bipush (v := nI 16) C dd_Mo_settle_39 (kk := ?_)
              refine gx_aload_n C 3 dd_Mo_settle_41 (kk := ?_)
              refine mo_get C fd_Mo_103 dd_Mo_settle_42 (kk := ?_)
              refine gx_topi _ hS ?_
              refine gx_imul C dd_Mo_settle_45 (kk := ?_)
              refine gx_topi _ (pk_mul _ _) ?_
              refine gx_iload_n C 0 dd_Mo_settle_46 (kk := ?_)
              refine gx_iadd C dd_Mo_settle_47 (kk := ?_)
              refine gx_topi _ (nI_add _ _) ?_
              refine mo_l64 C dd_Mo_settle_48 (by omega) (kk := ?_)
              refine gx_topl _ hu0 ?_
              refine gx_lcmp C dd_Mo_settle_49 (kk := ?_)
              refine gx_if_ne C 57 dd_Mo_settle_50 (fun h50 => ?_) (fun h50 => absurd ((am_e_inj (fun a ha => by have := htb q a ha; omega) (fun a ha => by have := hub q a ha; omega)).mp (lc_eq.mp h50)) htq)
              refine gx_iconst (v := nI 0) C dd_Mo_settle_57 (kk := ?_)
              refine gx_topi (nI (de_q t u (q + 1)).toNat) (by
                rw [de_q_s, hb, decide_eq_false htq]
                rfl) ?_
              refine gx_istore_n C _ dd_Mo_settle_58 (kk := ?_)
              refine gx_iinc C 1 (nI (q + 1)) _ dd_Mo_settle_59 (nI_1 _) (kk := ?_)
              refine gx_goto C 14 dd_Mo_settle_62 (kk := ?_)
              exact ihq (q + 1) (by omega)
      exact same 16 0 rfl
  refine gx_iconst (v := nI 0) C dd_Mo_settle_0 (kk := ?_)
  refine gx_istore_n C _ dd_Mo_settle_1 (kk := ?_)
  exact loop T.length 0 (by omega) (fun k2 w2 hk2 => absurd hk2 (Nat.not_lt_zero _))
def dg_iv (F : mo_F) (L : mo_L) (S : Nat → Int32) (st : Option (Nat × Nat)) (c : de_S) : Prop := mo_is F L 4 (0, st, (fun _ => none), c.2) ∧ S 27 = nI c.1.length ∧ c.1.length ≤ 16 ∧ mrs L c.1 ∧ de_tb c.1 ∧ am_so c.2 ∧ ∀ x ∈ c.2, x.1 < 16384 ∧ x.2 < 35184372088832
def dg_r (v : Option Value) (F : mo_F) (L : mo_L) (S : Nat → Int32) (st : Option (Nat × Nat)) (o : Option de_S) : Prop := match o with
  | none => v = some (.int (nI 0))
  | some c => v = some (.int (nI 1)) ∧ dg_iv F L S st c
theorem de_fd_tb {u : ls_V} {T : List ls_V} {y : Nat × List ls_V} (h : de_fd u T = some y) (hT : de_tb T) (hu : sp_b (1 + T.length * 1000000001) u) : de_tb y.2 := by
  unfold de_fd at h
  split at h
  · cases h
    exact hT
  · split at h
    · cases h
      intro k v hk
      have hk : (T ++ [u])[k]? = some v := hk
      rw [List.getElem?_append] at hk
      by_cases hkl : k < T.length
      · rw [if_pos hkl] at hk
        exact hT k v hk
      · rw [if_neg hkl] at hk
        have hk3 : k - T.length < 1 := (List.getElem?_eq_some_iff.mp hk).1
        rw [show k - T.length = 0 by omega] at hk
        cases hk
        rw [show k = T.length by omega]
        exact hu
    · cases h
theorem de_exs {l : List (Nat × Nat)} {m s : Nat} {c : de_S} {v : ls_V} (h : c.1[s]? = some v) : de_ex l (m + 1) s c = de_nx l m s (de_run l s v 7 1 c) := by
  show (match c.1[s]? with | none => some c | some v => (match de_run l s v 7 1 c with | none => none | some c2 => de_ex l m (s + 1) c2)) = _
  rw [h]
  rfl
theorem de_exn {l : List (Nat × Nat)} {m s : Nat} {c : de_S} (h : c.1.length ≤ s) : de_ex l m s c = some c := by
  cases m with
  | zero => rfl
  | succ m =>
    show (match c.1[s]? with | none => some c | some v => (match de_run l s v 7 1 c with | none => none | some c2 => de_ex l m (s + 1) c2)) = _
    rw [List.getElem?_eq_none h]
theorem de_rns {l : List (Nat × Nat)} {s m label : Nat} {v : ls_V} {c c2 : de_S} (h : de_lv l s label v c = some c2) : de_run l s v (m + 1) label c = de_run l s v m (label + 1) c2 := by
  show (match de_lv l s label v c with | none => none | some c2 => de_run l s v m (label + 1) c2) = _
  rw [h]
theorem de_rnn {l : List (Nat × Nat)} {s m label : Nat} {v : ls_V} {c : de_S} (h : de_lv l s label v c = none) : de_run l s v (m + 1) label c = none := by
  show (match de_lv l s label v c with | none => none | some c2 => de_run l s v m (label + 1) c2) = _
  rw [h]
theorem de_pre {l : List (Nat × Nat)} {s label k : Nat} {v t : ls_V} {c c2 : de_S} (h : de_lv l s label v c = some c2) (hk : c.1[k]? = some t) : c2.1[k]? = some t := by
  obtain ⟨X, hX⟩ := de_lv_pre h
  rw [hX, List.getElem?_append_left (List.getElem?_eq_some_iff.mp hk).1]
  exact hk
set_option maxRecDepth 100000 in
set_option maxHeartbeats 4000000 in
theorem ct_Mo_gather (l : Launch) (D : va_G) (dA : Nat → ClassId) (ad : Nat → Nat) (h : Nat → va_E) (F : mo_F) (L : mo_L) (S : Nat → Int32) {ia : Nat} {A : am_T} (hia : ia < 4) (hA : mo_is F L ia A) (hAb : ∀ x ∈ am_ar A, x.1 < 16384 ∧ x.2 < 1000000001) {st : Option (Nat × Nat)} {c : de_S} (hiv : dg_iv F L S st c) : gx_Ct l D dA yy_Mo_gather cc_Mo_gather 7 (some .boolean) 2 0 0 [.ref (ad 43), .int (nI ia)] (gx_w ad (mo_h dA ad h F L S)) (fun v w => ∃ F2 L2 S2, w = (gx_w ad (mo_h dA ad h F2 L2 S2)) ∧ mo_w F L F2 L2 ∧ (∀ k, k ≠ 27 → S2 k = S k) ∧ dg_r v F2 L2 S2 st (de_ex (am_ar A) 16 0 c)) := by
  refine gx_of (by decide) (Nat.le_of_ble_eq_true rfl) (fun K C _ _ => ?_)
  have loop : ∀ m k c1 F1 L1 S1, k + m = 16 → de_ex (am_ar A) 16 0 c = de_ex (am_ar A) m k c1 → dg_iv F1 L1 S1 st c1 → mo_w F L F1 L1 → (∀ k, k ≠ 27 → S1 k = S k) → gx_G K D 7 0 0 2 [(2, .int (nI k)), (0, .ref (ad 43)), (1, .int (nI ia))] [] (gx_w ad (mo_h dA ad h F1 L1 S1)) (gx_Z K D dA 0 0 (fun v w => ∃ F2 L2 S2, w = (gx_w ad (mo_h dA ad h F2 L2 S2)) ∧ mo_w F L F2 L2 ∧ (∀ k, k ≠ 27 → S2 k = S k) ∧ dg_r v F2 L2 S2 st (de_ex (am_ar A) 16 0 c))) := by
    intro m
    induction m with
    | zero =>
      intro k c1 F1 L1 S1 hk hE hiv1 hw1 hS1
      have hl16 := hiv1.2.2.1
      refine gx_iload_n C 0 dd_Mo_gather_2 (kk := ?_)
      refine gx_aload_n C 1 dd_Mo_gather_3 (kk := ?_)
      refine mo_get C fd_Mo_103 dd_Mo_gather_4 (kk := ?_)
      refine gx_topi _ hiv1.2.1 ?_
      refine gx_icmp_ge C 85 dd_Mo_gather_7 (fun h7 => ?_) (fun h7 => absurd (nI_le (a := c1.1.length) (b := k) (by omega) (by omega)) h7)
      refine gx_iconst (v := nI 1) C dd_Mo_gather_85 (kk := ?_)
      refine gx_zret C dd_Mo_gather_86 (by first | rfl | exact fb_nar) ?_
      rw [hE, de_exn (by omega)]
      exact ⟨_, _, _, rfl, hw1, hS1, rfl, hiv1⟩
    | succ m ih =>
      intro k c1 F1 L1 S1 hk hE hiv1 hw1 hS1
      have hl16 := hiv1.2.2.1
      refine gx_iload_n C 0 dd_Mo_gather_2 (kk := ?_)
      refine gx_aload_n C 1 dd_Mo_gather_3 (kk := ?_)
      refine mo_get C fd_Mo_103 dd_Mo_gather_4 (kk := ?_)
      refine gx_topi _ hiv1.2.1 ?_
      refine gx_icmp_ge C 85 dd_Mo_gather_7 (fun h7 => ?_) (fun h7 => ?_)
      · rw [nI_leI (by omega) (by omega)] at h7
        refine gx_iconst (v := nI 1) C dd_Mo_gather_85 (kk := ?_)
        refine gx_zret C dd_Mo_gather_86 (by first | rfl | exact fb_nar) ?_
        rw [hE, de_exn (by omega)]
        exact ⟨_, _, _, rfl, hw1, hS1, rfl, hiv1⟩
      · have hkl : k < c1.1.length := by
          rw [nI_leI (by omega) (by omega)] at h7
          omega
        obtain ⟨vv, hkv⟩ : ∃ t, c1.1[k]? = some t := ⟨_, List.getElem?_eq_getElem hkl⟩
        refine gx_iconst (v := nI 1) C dd_Mo_gather_10 (kk := ?_)
        refine gx_istore_n C _ dd_Mo_gather_11 (kk := ?_)
        have labels : ∀ m2 lb c1 F1 L1 S1, lb + m2 = 8 → de_ex (am_ar A) 16 0 c = de_nx (am_ar A) m k (de_run (am_ar A) k vv m2 lb c1) → dg_iv F1 L1 S1 st c1 → mo_w F L F1 L1 → (∀ k, k ≠ 27 → S1 k = S k) → c1.1[k]? = some vv → gx_G K D 7 0 0 12 [(3, .int (nI lb)), (2, .int (nI k)), (0, .ref (ad 43)), (1, .int (nI ia))] [] (gx_w ad (mo_h dA ad h F1 L1 S1)) (gx_Z K D dA 0 0 (fun v w => ∃ F2 L2 S2, w = (gx_w ad (mo_h dA ad h F2 L2 S2)) ∧ mo_w F L F2 L2 ∧ (∀ k, k ≠ 27 → S2 k = S k) ∧ dg_r v F2 L2 S2 st (de_ex (am_ar A) 16 0 c))) := by
          intro m2
          induction m2 with
          | zero =>
            intro lb c1 F1 L1 S1 hlb hE hiv1 hw1 hS1 hkv
            refine gx_iload_n C 0 dd_Mo_gather_12 (kk := ?_)
            refine gx_bipush (v := nI 8) C dd_Mo_gather_13 (kk := ?_)
            refine gx_icmp_ge C 79 dd_Mo_gather_15 (fun h15 => ?_) (fun h15 => absurd (nI_le (a := 8) (b := lb) (by omega) (by omega)) h15)
            refine gx_iinc C 1 (nI (k + 1)) _ dd_Mo_gather_79 (nI_1 _) (kk := ?_)
            refine gx_goto C 2 dd_Mo_gather_82 (kk := ?_)
            refine gx_loc [0, 2, 3] ?_
            exact ih (k + 1) c1 F1 L1 S1 (by omega) hE hiv1 hw1 hS1
          | succ m2 ihl =>
            intro lb c1 F1 L1 S1 hlb hE hiv1 hw1 hS1 hkv
            have hl16 := hiv1.2.2.1
            have hkl := (List.getElem?_eq_some_iff.mp hkv).1
            have hvb60 := de_tb60 hiv1.2.2.2.2.1 hl16 hkv
            have hsu := de_su_b (label := lb) hvb60 (fun x hx => (hAb x hx).2)
            have hsu0 := de_su_b (label := lb) (hiv1.2.2.2.2.1 k vv hkv) (fun x hx => (hAb x hx).2)
            refine gx_iload_n C 0 dd_Mo_gather_12 (kk := ?_)
            refine gx_bipush (v := nI 8) C dd_Mo_gather_13 (kk := ?_)
            refine gx_icmp_ge C 79 dd_Mo_gather_15 (fun h15 => absurd h15 (nI_ge (by omega) (by omega))) (fun h15 => ?_)
            refine gx_aload_n C 2 dd_Mo_gather_18 (kk := ?_)
            refine gx_iload_n C 3 dd_Mo_gather_19 (kk := ?_)
            refine gx_iload_n C 1 dd_Mo_gather_20 (kk := ?_)
            refine gx_iload_n C 0 dd_Mo_gather_21 (kk := ?_)
            refine gx_callV C (ct_Mo_follow (gx_l K) D dA ad h F1 L1 S1 (ia := ia) (k := k) (lb := lb) (A := A) (T := c1.1) (vv := vv) hia (mo_w_is hw1 hia hA) hAb hiv1.2.1 hl16 hiv1.2.2.2.1 hkv hvb60 (by omega)) me_Mo_follow ml_Mo_134 mn_Mo_follow _ (gx_w_at (by decide) mo_h_43) rfl dd_Mo_gather_22 (kk := fun v w hq => ?_)
            obtain ⟨rfl, L2, rfl, hL2, hlo2, hrw2⟩ := hq
            have hw2 : mo_w F1 L1 F1 L2 := mo_w_k (fun _ _ => rfl) (fun k hk => hL2 k (by omega))
            have hM2 : mo_is F1 L2 4 (0, st, (fun _ => none), c1.2) := mo_is_k (fun _ _ => rfl) (fun k hk => hL2 k (by omega)) hiv1.1
            have hrs2 : mrs L2 c1.1 := mrs_lo hlo2 hiv1.2.2.2.1
            refine gx_lstore C _ dd_Mo_gather_25 (kk := ?_)
            rcases hlow : (de_su (am_ar A) vv lb).2 with _ | w0
            · have hlv := de_lv_0 (s := k) (c := c1) hlow
              refine gx_lload C 0 dd_Mo_gather_27 (kk := ?_)
              refine gx_lconst (v := lN 0) C dd_Mo_gather_29 (kk := ?_)
              refine gx_lcmp C dd_Mo_gather_30 (kk := ?_)
              refine gx_if_ge C 38 dd_Mo_gather_31 (fun h31 => absurd h31 (by decide)) (fun h31 => ?_)
              refine gx_iconst (v := -1) C dd_Mo_gather_34 (kk := ?_)
              refine gx_goto C 42 dd_Mo_gather_35 (kk := ?_)
              skip
              · refine gx_istore C _ dd_Mo_gather_42 (kk := ?_)
                refine gx_lload C 1 dd_Mo_gather_44 (kk := ?_)
                refine gx_lconst (v := lN 0) C dd_Mo_gather_46 (kk := ?_)
                refine gx_lcmp C dd_Mo_gather_47 (kk := ?_)
                refine gx_if_lt C 73 dd_Mo_gather_48 (fun h48 => ?_) (fun h48 => absurd (by decide) h48)
                refine gx_iinc C 2 (nI (lb + 1)) _ dd_Mo_gather_73 (nI_1 _) (kk := ?_)
                refine gx_goto C 12 dd_Mo_gather_76 (kk := ?_)
                refine gx_loc [0, 3, 4, 5] ?_
                exact ihl (lb + 1) c1 F1 L2 S1 (by omega) (by rw [hE, de_rns hlv]) ⟨hM2, hiv1.2.1, hl16, hrs2, hiv1.2.2.2.2⟩ (mo_w_tr hw1 hw2) hS1 hkv
            · have hw0b := hsu.2.1 w0 hlow
              have hrow := hrw2 w0 hlow
              refine gx_lload C 0 dd_Mo_gather_27 (kk := ?_)
              refine gx_lconst (v := lN 0) C dd_Mo_gather_29 (kk := ?_)
              refine gx_lcmp C dd_Mo_gather_30 (kk := ?_)
              refine gx_if_ge C 38 dd_Mo_gather_31 (fun h31 => ?_) (fun h31 => absurd (lc_ge.mpr (by show lN 0 ≤ lN w0; rw [pk_lLE (by decide) (by omega)]; omega)) h31)
              refine gx_aload_n C 3 dd_Mo_gather_38 (kk := ?_)
              refine gx_callV C (ct_Mo_settle (gx_l K) D dA ad h F1 L2 S1 (T := c1.1) (u := de_row (de_su (am_ar A) vv lb).1 w0) hiv1.2.1 hl16 hrs2 (fun k t ht => sp_b_mono (de_tb60 hiv1.2.2.2.2.1 hl16 ht) (by decide)) hrow (sp_b_mono (de_row_b hsu.1) (by decide))) me_Mo_settle ml_Mo_138 mn_Mo_settle _ (gx_w_at (by decide) mo_h_43) rfl dd_Mo_gather_39 (kk := fun v w hq => ?_)
              rcases hq with ⟨y, hy, rfl, S2, rfl, hS27, hS2, hy16, hrs3, hyl⟩ | ⟨hy, rfl, rfl⟩
              · refine gx_istore C _ dd_Mo_gather_42 (kk := ?_)
                refine gx_lload C 1 dd_Mo_gather_44 (kk := ?_)
                refine gx_lconst (v := lN 0) C dd_Mo_gather_46 (kk := ?_)
                refine gx_lcmp C dd_Mo_gather_47 (kk := ?_)
                refine gx_if_lt C 73 dd_Mo_gather_48 (fun h48 => absurd (lc_lt.mp h48) (by show ¬ lN w0 < lN 0; rw [pk_lLT (by omega) (by decide)]; omega)) (fun h48 => ?_)
                refine gx_iload C 0 dd_Mo_gather_51 (kk := ?_)
                refine gx_if_lt C 71 dd_Mo_gather_53 (fun h53 => absurd h53 (nI_pos (by omega))) (fun h53 => ?_)
                refine gx_aload_n C 4 dd_Mo_gather_56 (kk := ?_)
                refine gx_iconst (v := nI 4) C dd_Mo_gather_57 (kk := ?_)
                refine gx_iload_n C 3 dd_Mo_gather_58 (kk := ?_)
                refine gx_iload C 0 dd_Mo_gather_59 (kk := ?_)
                refine gx_iload_n C 2 dd_Mo_gather_61 (kk := ?_)
                refine gx_iload_n C 2 dd_Mo_gather_62 (kk := ?_)
                refine gx_lload C 1 dd_Mo_gather_63 (kk := ?_)
                refine gx_callV C (ct_Mo_put (gx_l K) D dA ad h F1 L2 S2 (s := 4) (f := k) (t := y.1) (i := lb) (o := lb) (x0 := w0) (B := 35184372088832) (a := (0, st, (fun _ => none), c1.2)) (by decide) hM2 hiv1.2.2.2.2.2.1 (fun z hz => (hiv1.2.2.2.2.2.2 z hz).1) (fun z hz => (hiv1.2.2.2.2.2.2 z hz).2) (by decide) (by omega) hy16 (by omega) (by omega) (by omega)) me_Mo_put ml_Mo_99 mn_Mo_put _ (gx_w_at (by decide) mo_h_43) rfl dd_Mo_gather_65 (kk := fun v w hq => ?_)
                have hlv2 := de_lv_s (s := k) (c := c1) hlow hy
                rcases hq with ⟨hr3, rfl, F3, L3, rfl, hM3, hf3⟩ | ⟨hr3, rfl, rfl⟩
                · replace hlv2 := hlv2.trans (if_pos (show am_rm (k * 1024 + (8 * lb + lb) * 16 + y.1) c1.2 = true from hr3))
                  refine gx_if_ne C 73 dd_Mo_gather_68 (fun h68 => ?_) (fun h68 => absurd h68 (by decide))
                  refine gx_iinc C 2 (nI (lb + 1)) _ dd_Mo_gather_73 (nI_1 _) (kk := ?_)
                  refine gx_goto C 12 dd_Mo_gather_76 (kk := ?_)
                  refine gx_loc [0, 3, 4, 5] ?_
                  exact ihl (lb + 1) _ F3 L3 S2 (by omega) (by rw [hE, de_rns hlv2]) ⟨hM3, hS27, hyl, mrs_k (hf3.2.2.2 64 (by decide)).2 hrs3, de_fd_tb hy hiv1.2.2.2.2.1 (sp_b_mono (de_row_b hsu0.1) (by have := Nat.mul_le_mul_right 1000000001 (show k + 1 ≤ c1.1.length by omega); omega)), am_in_so hiv1.2.2.2.2.2.1, mb_arb hiv1.2.2.2.2.2.2 (by omega) (by omega)⟩ (mo_w_tr (mo_w_tr hw1 hw2) (mo_w_fr hf3)) (mo_s_r hS1 hS2) (de_pre hlv2 hkv)
                · have hN : de_lv (am_ar A) k lb vv c1 = none := hlv2.trans (if_neg (by rw [show am_rm (k * 1024 + (8 * lb + lb) * 16 + y.1) c1.2 = false from hr3]; decide))
                  refine gx_if_ne C 73 dd_Mo_gather_68 (fun h68 => absurd rfl h68) (fun h68 => ?_)
                  refine gx_iconst (v := nI 0) C dd_Mo_gather_71 (kk := ?_)
                  refine gx_zret C dd_Mo_gather_72 (by first | rfl | exact fb_nar) ?_
                  rw [hE, de_rnn hN]
                  exact ⟨_, _, _, rfl, (mo_w_tr hw1 hw2), (mo_s_r hS1 hS2), rfl⟩
              · have hN := de_lv_n (s := k) (c := c1) hlow hy
                refine gx_istore C _ dd_Mo_gather_42 (kk := ?_)
                refine gx_lload C 1 dd_Mo_gather_44 (kk := ?_)
                refine gx_lconst (v := lN 0) C dd_Mo_gather_46 (kk := ?_)
                refine gx_lcmp C dd_Mo_gather_47 (kk := ?_)
                refine gx_if_lt C 73 dd_Mo_gather_48 (fun h48 => absurd (lc_lt.mp h48) (by show ¬ lN w0 < lN 0; rw [pk_lLT (by omega) (by decide)]; omega)) (fun h48 => ?_)
                refine gx_iload C 0 dd_Mo_gather_51 (kk := ?_)
                refine gx_if_lt C 71 dd_Mo_gather_53 (fun h53 => ?_) (fun h53 => absurd (by decide) h53)
                refine gx_iconst (v := nI 0) C dd_Mo_gather_71 (kk := ?_)
                refine gx_zret C dd_Mo_gather_72 (by first | rfl | exact fb_nar) ?_
                rw [hE, de_rnn hN]
                exact ⟨_, _, _, rfl, (mo_w_tr hw1 hw2), hS1, rfl⟩
        exact labels 7 1 c1 F1 L1 S1 rfl (by rw [hE, de_exs hkv]) hiv1 hw1 hS1 hkv
  refine gx_iconst (v := nI 0) C dd_Mo_gather_0 (kk := ?_)
  refine gx_istore_n C _ dd_Mo_gather_1 (kk := ?_)
  exact loop 16 0 c F L S rfl rfl hiv mo_w_rf (fun _ _ => rfl)
theorem de_esb {a : am_T} {T : List ls_V} (hT : ∀ (k : Nat) (t : ls_V), T[k]? = some t → sp_b 17592186044416 t) (ha : ∀ q e, am_en a q = some e → e < 1000000001) (s q e : Nat) (h : de_es a T s q = some e) : e < 35184372088832 := by
  unfold de_es at h
  split at h
  · split at h
    · cases h
    · rename_i v hv
      exact ba_le_b (hT q v hv) (fun q e he => Nat.lt_trans (ha q e he) (by decide)) _ _ h
  · cases h
set_option maxRecDepth 100000 in
set_option maxHeartbeats 4000000 in
theorem ct_Mo_determine (l : Launch) (D : va_G) (dA : Nat → ClassId) (ad : Nat → Nat) (h : Nat → va_E) (F : mo_F) (L : mo_L) (S : Nat → Int32) {σ : sg} (hr : rs F L S σ) (hσ : sg_ok σ) (a c : Int32) : gx_Ct l D dA yy_Mo_determine cc_Mo_determine 11 (some .int) 3 0 0 [.ref (ad 43), .int a, .int c] (gx_w ad (mo_h dA ad h F L S)) (fun v w => ∃ F2 L2 S2, w = (gx_w ad (mo_h dA ad h F2 L2 S2)) ∧ rs F2 L2 S2 (o_determine σ a c).2 ∧ v = some (.int (o_determine σ a c).1)) := by
  refine gx_of (by decide) (Nat.le_of_ble_eq_true rfl) (fun K C _ _ => ?_)
  have hM := hr.1
  have hP := hr.2.1
  have hX := hr.2.2
  refine gx_iload_n C 1 dd_Mo_determine_0 (kk := ?_)
  refine gx_callS C (ct_Mo_isSlot (gx_l K) D dA _ a) me_Mo_isSlot ml_Mo_81 ms_Mo_isSlot dd_Mo_determine_1 (kk := fun v w hq => ?_)
  obtain ⟨rfl, rfl⟩ := hq
  rcases hi : ix 4 a with _ | i
  · refine gx_if_eq C 14 dd_Mo_determine_4 (fun h4 => ?_) (fun h4 => absurd rfl h4)
    refine gx_iconst (v := -1) C dd_Mo_determine_14 (kk := ?_)
    refine gx_iret C dd_Mo_determine_15 ?_
    have hsp : o_determine σ a c = (-1, σ) := by
      unfold o_determine
      simp only [hi]
    rw [hsp]
    exact ⟨F, L, S, rfl, hr, rfl⟩
  · obtain ⟨hi4, rfl⟩ := ix_of (by decide) hi
    refine gx_if_eq C 14 dd_Mo_determine_4 (fun h4 => absurd (show true = false from fb_0.mp h4) (by decide)) (fun h4 => ?_)
    refine gx_iload_n C 2 dd_Mo_determine_7 (kk := ?_)
    refine gx_callS C (ct_Mo_isSlot (gx_l K) D dA _ c) me_Mo_isSlot ml_Mo_81 ms_Mo_isSlot dd_Mo_determine_8 (kk := fun v w hq => ?_)
    obtain ⟨rfl, rfl⟩ := hq
    rcases hk : ix 4 c with _ | k
    · refine gx_if_ne C 16 dd_Mo_determine_11 (fun h11 => absurd rfl h11) (fun h11 => ?_)
      refine gx_iconst (v := -1) C dd_Mo_determine_14 (kk := ?_)
      refine gx_iret C dd_Mo_determine_15 ?_
      have hsp : o_determine σ (nI i) c = (-1, σ) := by
        unfold o_determine
        simp only [hi, hk]
      rw [hsp]
      exact ⟨F, L, S, rfl, hr, rfl⟩
    · obtain ⟨hk4, rfl⟩ := ix_of (by decide) hk
      refine gx_if_ne C 16 dd_Mo_determine_11 (fun h11 => ?_) (fun h11 => absurd (show true = false from fb_0.mp h11) (by decide))
      refine gx_aload_n C 0 dd_Mo_determine_16 (kk := ?_)
      refine gx_iload_n C 1 dd_Mo_determine_17 (kk := ?_)
      refine gx_callV C (ct_Mo_isFit (gx_l K) D dA ad h F L S (ia := i) hi4 (hM i hi4) (hσ.1 i hi4)) me_Mo_isFit ml_Mo_142 mn_Mo_isFit _ (gx_w_at (by decide) mo_h_43) rfl dd_Mo_determine_18 (kk := fun v w hq => ?_)
      have hok := hσ.1 i hi4
      have hn16 := hok.1.1
      have hl64 := hok.1.2.1
      obtain ⟨F2, rfl, hF2, hfq⟩ := hq
      have hw2 : mo_w F L F2 L := mo_w_k (fun k hk => hF2 k (by omega)) (fun _ _ => rfl)
      rcases hfq with ⟨hfd, rfl⟩ | ⟨hfd, rfl⟩
      · refine gx_if_ne C 27 dd_Mo_determine_21 (fun h21 => ?_) (fun h21 => absurd h21 (by decide))
        refine gx_aload_n C 0 dd_Mo_determine_27 (kk := ?_)
        refine gx_iconst (v := nI 4) C dd_Mo_determine_28 (kk := ?_)
        refine gx_iconst (v := nI 0) C dd_Mo_determine_29 (kk := ?_)
        refine gx_callV C (ct_Mo_blank (gx_l K) D dA ad h F2 L S (s := 4) (n := 0) (by decide)) me_Mo_blank ml_Mo_75 mn_Mo_blank _ (gx_w_at (by decide) mo_h_43) rfl dd_Mo_determine_30 (kk := fun v w hq => ?_)
        obtain ⟨rfl, F4, L4, rfl, hM4, hf4⟩ := hq
        refine gx_aload_n C 0 dd_Mo_determine_33 (kk := ?_)
        refine gx_iconst (v := nI 0) C dd_Mo_determine_34 (kk := ?_)
        refine mo_put_27 C fw_Mo_103 dd_Mo_determine_35 (kk := fun S35 hS35 => ?_)
        have hw4 : mo_w F L F4 L4 := mo_w_tr hw2 (mo_w_fr hf4)
        have hsq := (mo_w_is hw4 hi4 (hM i hi4)).2.1
        rcases hst : am_st (σ.1 i) with _ | xa
        · rw [hst] at hsq
          refine gx_aload_n C 0 dd_Mo_determine_38 (kk := ?_)
          refine mo_get C fd_Mo_13 dd_Mo_determine_39 (kk := ?_)
          refine gx_iload_n C 1 dd_Mo_determine_42 (kk := ?_)
          refine mo_l45 C dd_Mo_determine_43 (by omega) (kk := ?_)
          refine gx_topi _ hsq.1 ?_
          refine gx_if_lt C 108 dd_Mo_determine_44 (fun h44 => ?_) (fun h44 => absurd (by decide) h44)
          have hw9 : mo_w F L F4 L4 := hw4
          have hiv9 : dg_iv F4 L4 S35 none ([], []) := ⟨hM4, by rw [hS35, gm_us]; rfl, Nat.zero_le _, fun k2 v2 hk2 => absurd hk2 (by simp), fun k2 v2 hk2 => absurd hk2 (by simp), List.Pairwise.nil, fun x hx => absurd hx List.not_mem_nil⟩
          have hS9 : ∀ k, k ≠ 27 → S35 k = S k := fun k hk => by rw [hS35, gm_un hk]
          refine gx_aload_n C 0 dd_Mo_determine_108 (kk := ?_)
          refine gx_iload_n C 1 dd_Mo_determine_109 (kk := ?_)
          refine gx_callV C (ct_Mo_gather (gx_l K) D dA ad h F4 L4 S35 hi4 (mo_w_is hw9 hi4 (hM i hi4)) hok.1.2.2.1 hiv9) me_Mo_gather ml_Mo_145 mn_Mo_gather _ (gx_w_at (by decide) mo_h_43) rfl dd_Mo_determine_110 (kk := fun v w hq => ?_)
          obtain ⟨F5, L5, S5, rfl, hwa, hSa, hra⟩ := hq
          have hw5 := mo_w_tr hw9 hwa
          have hS5 := mo_s_r hS9 hSa
          have hx : de_ex (am_ar (σ.1 i)) 16 0 ([], []) = some ([], []) := de_exn (Nat.le_refl _)
          rw [hx] at hra
          obtain ⟨rfl, hiv5⟩ := hra
          have hl16 := hiv5.2.2.1
          · refine gx_if_ne C 119 dd_Mo_determine_113 (fun h113 => ?_) (fun h113 => absurd h113 (by decide))
            refine gx_aload_n C 0 dd_Mo_determine_119 (kk := ?_)
            refine mo_get C fd_Mo_7 dd_Mo_determine_120 (kk := ?_)
            refine gx_iconst (v := nI 4) C dd_Mo_determine_123 (kk := ?_)
            refine gx_aload_n C 0 dd_Mo_determine_124 (kk := ?_)
            refine mo_get C fd_Mo_103 dd_Mo_determine_125 (kk := ?_)
            refine gx_topi _ hiv5.2.1 ?_
            refine mo_s44 C dd_Mo_determine_128 (by omega) (kk := fun F128 hF128 => ?_)
            refine gx_iconst (v := nI 0) C dd_Mo_determine_129 (kk := ?_)
            refine gx_istore_n C _ dd_Mo_determine_130 (kk := ?_)
            have loop : ∀ m k5 L1, k5 + m = (([], []) : de_S).1.length → mo_is F128 L1 4 ((([], []) : de_S).1.length, (none : Option (Nat × Nat)), de_es (σ.1 i) (([], []) : de_S).1 k5, (([], []) : de_S).2) → mo_w F L F128 L1 → L1 64 = L5 64 → gx_G K D 11 0 0 131 [(3, .int (nI k5)), (0, .ref (ad 43)), (1, .int (nI i)), (2, .int (nI k))] [] (gx_w ad (mo_h dA ad h F128 L1 S5)) (gx_Z K D dA 0 0 (fun v w => ∃ F2 L2 S2, w = (gx_w ad (mo_h dA ad h F2 L2 S2)) ∧ rs F2 L2 S2 (o_determine σ (nI i) (nI k)).2 ∧ v = some (.int (o_determine σ (nI i) (nI k)).1))) := by
              intro m
              induction m with
              | zero =>
                intro k5 L1 hk5 hM5 hw1 h64
                refine gx_iload_n C 0 dd_Mo_determine_131 (kk := ?_)
                refine gx_aload_n C 1 dd_Mo_determine_132 (kk := ?_)
                refine mo_get C fd_Mo_103 dd_Mo_determine_133 (kk := ?_)
                refine gx_topi _ hiv5.2.1 ?_
                refine gx_icmp_ge C 274 dd_Mo_determine_136 (fun h136 => ?_) (fun h136 => absurd (nI_le (a := (([], []) : de_S).1.length) (b := k5) (by omega) (by omega)) h136)
                refine gx_aload_n C 1 dd_Mo_determine_274 (kk := ?_)
                refine gx_iload_n C 3 dd_Mo_determine_275 (kk := ?_)
                refine gx_callV C (ct_Mo_keep (gx_l K) D dA ad h F128 L1 S5 (c := k) (B := 35184372088832) (b := ((([], []) : de_S).1.length, (none : Option (Nat × Nat)), de_es (σ.1 i) (([], []) : de_S).1 (([], []) : de_S).1.length, (([], []) : de_S).2)) (by omega) (by rw [show k5 = (([], []) : de_S).1.length by omega] at hM5; exact hM5) hl16 (by decide) (fun x hx => (hiv5.2.2.2.2.2.2 x hx).2) (de_esb (fun k t ht => sp_b_mono (de_tb60 hiv5.2.2.2.2.1 hl16 ht) (by decide)) hok.1.2.2.2.1 (([], []) : de_S).1.length) (fun x hx => by cases hx)) me_Mo_keep ml_Mo_126 mn_Mo_keep _ (gx_w_at (by decide) mo_h_43) rfl dd_Mo_determine_276 (kk := fun v w hq => ?_)
                rcases hq with ⟨hfit, rfl, F7, L7, rfl, hM7, hf7⟩ | ⟨hfit, rfl, rfl⟩
                · refine gx_if_eq C 289 dd_Mo_determine_279 (fun h279 => absurd h279 (by decide)) (fun h279 => ?_)
                  refine gx_aload_n C 1 dd_Mo_determine_282 (kk := ?_)
                  refine mo_get C fd_Mo_103 dd_Mo_determine_283 (kk := ?_)
                  refine gx_topi _ hiv5.2.1 ?_
                  refine gx_goto C 291 dd_Mo_determine_286 (kk := ?_)
                  refine gx_iret C dd_Mo_determine_291 ?_
                  have hmk : de_mk (σ.1 i) = some ((([], []) : de_S).1.length, (none : Option (Nat × Nat)), de_es (σ.1 i) (([], []) : de_S).1 (([], []) : de_S).1.length, (([], []) : de_S).2) := by
                    show _ = some (0, none, de_es (σ.1 i) [] 0, [])
                    rw [de_es_0]
                    unfold de_mk
                    rw [hst]
                  have hsp : o_determine σ (nI i) (nI k) = (nI (([], []) : de_S).1.length, o_set σ k ((([], []) : de_S).1.length, (none : Option (Nat × Nat)), de_es (σ.1 i) (([], []) : de_S).1 (([], []) : de_S).1.length, (([], []) : de_S).2)) := by
                    unfold o_determine
                    simp only [hi, hk]
                    rw [if_pos hfd, hmk]
                    exact o_keep_y hfit
                  rw [hsp]
                  exact ⟨F7, L7, _, rfl, rs_set hf7 hM7 (mo_w_rs hw1 (hS5 10 (by decide)) (hS5 14 (by decide)) hr), rfl⟩
                · refine gx_if_eq C 289 dd_Mo_determine_279 (fun h279 => ?_) (fun h279 => absurd rfl h279)
                  refine gx_bipush (v := -2) C dd_Mo_determine_289 (kk := ?_)
                  refine gx_iret C dd_Mo_determine_291 ?_
                  have hmk : de_mk (σ.1 i) = some ((([], []) : de_S).1.length, (none : Option (Nat × Nat)), de_es (σ.1 i) (([], []) : de_S).1 (([], []) : de_S).1.length, (([], []) : de_S).2) := by
                    show _ = some (0, none, de_es (σ.1 i) [] 0, [])
                    rw [de_es_0]
                    unfold de_mk
                    rw [hst]
                  have hsp : o_determine σ (nI i) (nI k) = (-2, σ) := by
                    unfold o_determine
                    simp only [hi, hk]
                    rw [if_pos hfd, hmk]
                    exact o_keep_n hfit
                  rw [hsp]
                  exact ⟨_, _, _, rfl, mo_w_rs hw1 (hS5 10 (by decide)) (hS5 14 (by decide)) hr, rfl⟩
              | succ m ih =>
                intro k5 L1 hk5 hM5 hw1 h64
                obtain ⟨t, ht⟩ : ∃ t, (([], []) : de_S).1[k5]? = some t := ⟨_, List.getElem?_eq_getElem (by omega)⟩
                have htb := de_tb60 hiv5.2.2.2.2.1 hl16 ht
                have htb2 : sp_b 17592186044416 t := sp_b_mono htb (by decide)
                have hrow : ∀ s, s < 16 → L1 64 (16 * k5 + s) = am_e (t s) := by
                  rw [h64]
                  exact hiv5.2.2.2.1 k5 t ht
                refine gx_iload_n C 0 dd_Mo_determine_131 (kk := ?_)
                refine gx_aload_n C 1 dd_Mo_determine_132 (kk := ?_)
                refine mo_get C fd_Mo_103 dd_Mo_determine_133 (kk := ?_)
                refine gx_topi _ hiv5.2.1 ?_
                refine gx_icmp_ge C 274 dd_Mo_determine_136 (fun h136 => absurd h136 (nI_ge (by omega) (by omega))) (fun h136 => ?_)
                refine gx_ldc2 C dd_Mo_determine_139 kc_Mo_129 (kk := ?_)
                refine gx_lstore C _ dd_Mo_determine_142 (kk := ?_)
                refine gx_iconst (v := nI 0) C dd_Mo_determine_144 (kk := ?_)
                refine gx_istore C _ dd_Mo_determine_145 (kk := ?_)
                have ends : ∀ m2 q, q + m2 = am_n (σ.1 i) → gx_G K D 11 0 0 147 [(6, .int (nI q)), (4, .long (mf (ba_le t (am_en (σ.1 i)) q))), (3, .int (nI k5)), (0, .ref (ad 43)), (1, .int (nI i)), (2, .int (nI k))] [] (gx_w ad (mo_h dA ad h F128 L1 S5)) (gx_Z K D dA 0 0 (fun v w => ∃ F2 L2 S2, w = (gx_w ad (mo_h dA ad h F2 L2 S2)) ∧ rs F2 L2 S2 (o_determine σ (nI i) (nI k)).2 ∧ v = some (.int (o_determine σ (nI i) (nI k)).1))) := by
                  intro m2
                  induction m2 with
                  | zero =>
                    intro q hq0
                    refine gx_iload C 0 dd_Mo_determine_147 (kk := ?_)
                    refine gx_aload_n C 3 dd_Mo_determine_149 (kk := ?_)
                    refine mo_get C fd_Mo_7 dd_Mo_determine_150 (kk := ?_)
                    refine gx_iload_n C 4 dd_Mo_determine_153 (kk := ?_)
                    refine mo_l44 C dd_Mo_determine_154 (by omega) (kk := ?_)
                    refine gx_topi _ (mo_w_is hw1 hi4 (hM i hi4)).1 ?_
                    refine gx_icmp_ge C 242 dd_Mo_determine_155 (fun h155 => ?_) (fun h155 => absurd (nI_le (a := am_n (σ.1 i)) (b := q) (by omega) (by omega)) h155)
                    obtain rfl : q = am_n (σ.1 i) := by omega
                    rcases hble : ba_le t (am_en (σ.1 i)) (am_n (σ.1 i)) with _ | e
                    · refine gx_aload_n C 3 dd_Mo_determine_242 (kk := ?_)
                      refine mo_get C fd_Mo_20 dd_Mo_determine_243 (kk := ?_)
                      refine gx_bipush (v := nI 64) C dd_Mo_determine_246 (kk := ?_)
                      refine gx_iload_n C 2 dd_Mo_determine_248 (kk := ?_)
                      refine gx_iadd C dd_Mo_determine_249 (kk := ?_)
                      refine gx_topi _ (nI_add _ _) ?_
                      refine gx_lload C 1 dd_Mo_determine_250 (kk := ?_)
                      refine gx_ldc2 C dd_Mo_determine_252 kc_Mo_129 (kk := ?_)
                      refine gx_lcmp C dd_Mo_determine_255 (kk := ?_)
                      refine gx_if_ge C 264 dd_Mo_determine_256 (fun h256 => ?_) (fun h256 => absurd (by decide) h256)
                      refine gx_ldc2 C dd_Mo_determine_264 kc_Mo_79 (kk := ?_)
                      refine mo_s47 C dd_Mo_determine_267 (by omega) (kk := fun L267 hL267 => ?_)
                      refine gx_iinc C 2 (nI (k5 + 1)) _ dd_Mo_determine_268 (nI_1 _) (kk := ?_)
                      refine gx_goto C 131 dd_Mo_determine_271 (kk := ?_)
                      refine gx_loc [0, 3, 4, 5] ?_
                      have hM6 := mo_is_en (s := 4) (q := k5) (o := none) hL267 rfl hM5
                      rw [← hble] at hM6
                      refine ih (k5 + 1) L267 (by omega) ?_ (mo_w_tr hw1 (mo_w_fr (mo_fr_47 (s := 4) (q := k5) (by omega) hL267))) (by rw [hL267, gm_un (by decide)]; exact h64)
                      rw [← de_es_s ht]
                      exact hM6
                    · have heb := ba_le_b htb2 (fun q e he => Nat.lt_trans (hok.1.2.2.2.1 q e he) (by decide)) _ _ hble
                      refine gx_aload_n C 3 dd_Mo_determine_242 (kk := ?_)
                      refine mo_get C fd_Mo_20 dd_Mo_determine_243 (kk := ?_)
                      refine gx_bipush (v := nI 64) C dd_Mo_determine_246 (kk := ?_)
                      refine gx_iload_n C 2 dd_Mo_determine_248 (kk := ?_)
                      refine gx_iadd C dd_Mo_determine_249 (kk := ?_)
                      refine gx_topi _ (nI_add _ _) ?_
                      refine gx_lload C 1 dd_Mo_determine_250 (kk := ?_)
                      refine gx_ldc2 C dd_Mo_determine_252 kc_Mo_129 (kk := ?_)
                      refine gx_lcmp C dd_Mo_determine_255 (kk := ?_)
                      refine gx_if_ge C 264 dd_Mo_determine_256 (fun h256 => absurd (lc_ge.mp h256) (mf_fl (by omega))) (fun h256 => ?_)
                      refine gx_lload C 1 dd_Mo_determine_259 (kk := ?_)
                      refine gx_goto C 267 dd_Mo_determine_261 (kk := ?_)
                      refine mo_s47 C dd_Mo_determine_267 (by omega) (kk := fun L267 hL267 => ?_)
                      refine gx_iinc C 2 (nI (k5 + 1)) _ dd_Mo_determine_268 (nI_1 _) (kk := ?_)
                      refine gx_goto C 131 dd_Mo_determine_271 (kk := ?_)
                      refine gx_loc [0, 3, 4, 5] ?_
                      have hM6 := mo_is_en (s := 4) (q := k5) (o := (some e)) hL267 rfl hM5
                      rw [← hble] at hM6
                      refine ih (k5 + 1) L267 (by omega) ?_ (mo_w_tr hw1 (mo_w_fr (mo_fr_47 (s := 4) (q := k5) (by omega) hL267))) (by rw [hL267, gm_un (by decide)]; exact h64)
                      rw [← de_es_s ht]
                      exact hM6
                  | succ m2 ihq =>
                    intro q hq0
                    refine gx_iload C 0 dd_Mo_determine_147 (kk := ?_)
                    refine gx_aload_n C 3 dd_Mo_determine_149 (kk := ?_)
                    refine mo_get C fd_Mo_7 dd_Mo_determine_150 (kk := ?_)
                    refine gx_iload_n C 4 dd_Mo_determine_153 (kk := ?_)
                    refine mo_l44 C dd_Mo_determine_154 (by omega) (kk := ?_)
                    refine gx_topi _ (mo_w_is hw1 hi4 (hM i hi4)).1 ?_
                    refine gx_icmp_ge C 242 dd_Mo_determine_155 (fun h155 => absurd h155 (nI_ge (by omega) (by omega))) (fun h155 => ?_)
                    refine gx_aload_n C 3 dd_Mo_determine_158 (kk := ?_)
                    refine mo_get C fd_Mo_72 dd_Mo_determine_159 (kk := ?_)
                    refine gx_bipush (v := nI 16) C dd_Mo_determine_162 (kk := ?_)
                    refine gx_iload_n C 2 dd_Mo_determine_164 (kk := ?_)
                    refine gx_imul C dd_Mo_determine_165 (kk := ?_)
                    refine gx_topi _ (pk_mul _ _) ?_
                    refine gx_iload C 0 dd_Mo_determine_166 (kk := ?_)
                    refine gx_iadd C dd_Mo_determine_168 (kk := ?_)
                    refine gx_topi _ (nI_add _ _) ?_
                    refine mo_l64 C dd_Mo_determine_169 (by omega) (kk := ?_)
                    refine gx_topl _ (hrow q (by omega)) ?_
                    refine gx_lstore C _ dd_Mo_determine_170 (kk := ?_)
                    rcases hvq : t q with _ | d
                    · refine gx_lload C 0 dd_Mo_determine_172 (kk := ?_)
                      refine gx_lconst (v := lN 0) C dd_Mo_determine_174 (kk := ?_)
                      refine gx_lcmp C dd_Mo_determine_175 (kk := ?_)
                      refine gx_if_lt C 214 dd_Mo_determine_176 (fun h176 => ?_) (fun h176 => absurd (by decide) h176)
                      refine gx_ldc2 C dd_Mo_determine_214 kc_Mo_129 (kk := ?_)
                      have hoa : co_oa (t q) (am_en (σ.1 i) q) = none := by
                        rw [hvq]
                        rfl
                      refine gx_topl (mf none) rfl ?_
                      refine gx_lstore C _ dd_Mo_determine_217 (kk := ?_)
                      refine gx_lload C 0 dd_Mo_determine_219 (kk := ?_)
                      refine gx_lload C 3 dd_Mo_determine_221 (kk := ?_)
                      refine gx_lcmp C dd_Mo_determine_223 (kk := ?_)
                      refine gx_if_ge C 232 dd_Mo_determine_224 (fun h224 => ?_) (fun h224 => ?_)
                      · refine gx_lload C 3 dd_Mo_determine_232 (kk := ?_)
                        refine gx_topl (mf (ba_le t (am_en (σ.1 i)) (q + 1))) ?_ ?_
                        · rw [lc_ge, ← Int64.not_lt, mf_lt (fun y hy => by cases hy) (fun y hy => by have := ba_le_b htb2 (fun q e he => Nat.lt_trans (hok.1.2.2.2.1 q e he) (by decide)) _ _ hy; omega)] at h224
                          show _ = mf (om (ba_le t (am_en (σ.1 i)) q) (co_oa (t q) (am_en (σ.1 i) q)))
                          rw [hoa, om_n h224]
                        refine gx_lstore C _ dd_Mo_determine_234 (kk := ?_)
                        refine gx_iinc C 3 (nI (q + 1)) _ dd_Mo_determine_236 (nI_1 _) (kk := ?_)
                        refine gx_goto C 147 dd_Mo_determine_239 (kk := ?_)
                        refine gx_loc [0, 1, 4, 5, 6, 7] ?_
                        exact ihq (q + 1) (by omega)
                      · refine gx_lload C 0 dd_Mo_determine_227 (kk := ?_)
                        refine gx_goto C 234 dd_Mo_determine_229 (kk := ?_)
                        refine gx_topl (mf (ba_le t (am_en (σ.1 i)) (q + 1))) ?_ ?_
                        · rw [lc_ge, ← Int64.not_lt, Classical.not_not, mf_lt (fun y hy => by cases hy) (fun y hy => by have := ba_le_b htb2 (fun q e he => Nat.lt_trans (hok.1.2.2.2.1 q e he) (by decide)) _ _ hy; omega)] at h224
                          show _ = mf (om (ba_le t (am_en (σ.1 i)) q) (co_oa (t q) (am_en (σ.1 i) q)))
                          rw [hoa, om_y h224]
                        refine gx_lstore C _ dd_Mo_determine_234 (kk := ?_)
                        refine gx_iinc C 3 (nI (q + 1)) _ dd_Mo_determine_236 (nI_1 _) (kk := ?_)
                        refine gx_goto C 147 dd_Mo_determine_239 (kk := ?_)
                        refine gx_loc [0, 1, 4, 5, 6, 7] ?_
                        exact ihq (q + 1) (by omega)
                    · have hdb := htb q d hvq
                      refine gx_lload C 0 dd_Mo_determine_172 (kk := ?_)
                      refine gx_lconst (v := lN 0) C dd_Mo_determine_174 (kk := ?_)
                      refine gx_lcmp C dd_Mo_determine_175 (kk := ?_)
                      refine gx_if_lt C 214 dd_Mo_determine_176 (fun h176 => absurd (lc_lt.mp h176) (by show ¬ lN d < lN 0; rw [pk_lLT (by omega) (by decide)]; omega)) (fun h176 => ?_)
                      have heq0 := (mo_w_is hw1 hi4 (hM i hi4)).2.2.1 q (by omega)
                      rcases heq : am_en (σ.1 i) q with _ | e
                      · rw [heq] at heq0
                        refine gx_aload_n C 4 dd_Mo_determine_179 (kk := ?_)
                        refine mo_get C fd_Mo_20 dd_Mo_determine_180 (kk := ?_)
                        refine gx_bipush (v := nI 16) C dd_Mo_determine_183 (kk := ?_)
                        refine gx_iload_n C 5 dd_Mo_determine_185 (kk := ?_)
                        refine gx_imul C dd_Mo_determine_186 (kk := ?_)
                        refine gx_topi _ (pk_mul _ _) ?_
                        refine gx_iload C 1 dd_Mo_determine_187 (kk := ?_)
                        refine gx_iadd C dd_Mo_determine_189 (kk := ?_)
                        refine gx_topi _ (nI_add _ _) ?_
                        refine mo_l47 C dd_Mo_determine_190 (by omega) (kk := ?_)
                        refine gx_topl _ heq0 ?_
                        refine gx_lconst (v := lN 0) C dd_Mo_determine_191 (kk := ?_)
                        refine gx_lcmp C dd_Mo_determine_192 (kk := ?_)
                        refine gx_if_lt C 214 dd_Mo_determine_193 (fun h193 => ?_) (fun h193 => absurd (by decide) h193)
                        refine gx_ldc2 C dd_Mo_determine_214 kc_Mo_129 (kk := ?_)
                        have hoa : co_oa (t q) (am_en (σ.1 i) q) = none := by
                          rw [hvq, heq]
                          rfl
                        refine gx_topl (mf none) rfl ?_
                        refine gx_lstore C _ dd_Mo_determine_217 (kk := ?_)
                        refine gx_lload C 0 dd_Mo_determine_219 (kk := ?_)
                        refine gx_lload C 3 dd_Mo_determine_221 (kk := ?_)
                        refine gx_lcmp C dd_Mo_determine_223 (kk := ?_)
                        refine gx_if_ge C 232 dd_Mo_determine_224 (fun h224 => ?_) (fun h224 => ?_)
                        · refine gx_lload C 3 dd_Mo_determine_232 (kk := ?_)
                          refine gx_topl (mf (ba_le t (am_en (σ.1 i)) (q + 1))) ?_ ?_
                          · rw [lc_ge, ← Int64.not_lt, mf_lt (fun y hy => by cases hy) (fun y hy => by have := ba_le_b htb2 (fun q e he => Nat.lt_trans (hok.1.2.2.2.1 q e he) (by decide)) _ _ hy; omega)] at h224
                            show _ = mf (om (ba_le t (am_en (σ.1 i)) q) (co_oa (t q) (am_en (σ.1 i) q)))
                            rw [hoa, om_n h224]
                          refine gx_lstore C _ dd_Mo_determine_234 (kk := ?_)
                          refine gx_iinc C 3 (nI (q + 1)) _ dd_Mo_determine_236 (nI_1 _) (kk := ?_)
                          refine gx_goto C 147 dd_Mo_determine_239 (kk := ?_)
                          refine gx_loc [0, 1, 4, 5, 6, 7] ?_
                          exact ihq (q + 1) (by omega)
                        · refine gx_lload C 0 dd_Mo_determine_227 (kk := ?_)
                          refine gx_goto C 234 dd_Mo_determine_229 (kk := ?_)
                          refine gx_topl (mf (ba_le t (am_en (σ.1 i)) (q + 1))) ?_ ?_
                          · rw [lc_ge, ← Int64.not_lt, Classical.not_not, mf_lt (fun y hy => by cases hy) (fun y hy => by have := ba_le_b htb2 (fun q e he => Nat.lt_trans (hok.1.2.2.2.1 q e he) (by decide)) _ _ hy; omega)] at h224
                            show _ = mf (om (ba_le t (am_en (σ.1 i)) q) (co_oa (t q) (am_en (σ.1 i) q)))
                            rw [hoa, om_y h224]
                          refine gx_lstore C _ dd_Mo_determine_234 (kk := ?_)
                          refine gx_iinc C 3 (nI (q + 1)) _ dd_Mo_determine_236 (nI_1 _) (kk := ?_)
                          refine gx_goto C 147 dd_Mo_determine_239 (kk := ?_)
                          refine gx_loc [0, 1, 4, 5, 6, 7] ?_
                          exact ihq (q + 1) (by omega)
                      · rw [heq] at heq0
                        have heb := hok.1.2.2.2.1 _ _ heq
                        refine gx_aload_n C 4 dd_Mo_determine_179 (kk := ?_)
                        refine mo_get C fd_Mo_20 dd_Mo_determine_180 (kk := ?_)
                        refine gx_bipush (v := nI 16) C dd_Mo_determine_183 (kk := ?_)
                        refine gx_iload_n C 5 dd_Mo_determine_185 (kk := ?_)
                        refine gx_imul C dd_Mo_determine_186 (kk := ?_)
                        refine gx_topi _ (pk_mul _ _) ?_
                        refine gx_iload C 1 dd_Mo_determine_187 (kk := ?_)
                        refine gx_iadd C dd_Mo_determine_189 (kk := ?_)
                        refine gx_topi _ (nI_add _ _) ?_
                        refine mo_l47 C dd_Mo_determine_190 (by omega) (kk := ?_)
                        refine gx_topl _ heq0 ?_
                        refine gx_lconst (v := lN 0) C dd_Mo_determine_191 (kk := ?_)
                        refine gx_lcmp C dd_Mo_determine_192 (kk := ?_)
                        refine gx_if_lt C 214 dd_Mo_determine_193 (fun h193 => absurd (lc_lt.mp h193) (by show ¬ lN e < lN 0; rw [pk_lLT (by omega) (by decide)]; omega)) (fun h193 => ?_)
                        refine gx_lload C 0 dd_Mo_determine_196 (kk := ?_)
                        refine gx_topl (lN d) rfl ?_
                        refine gx_aload_n C 4 dd_Mo_determine_198 (kk := ?_)
                        refine mo_get C fd_Mo_20 dd_Mo_determine_199 (kk := ?_)
                        refine gx_bipush (v := nI 16) C dd_Mo_determine_202 (kk := ?_)
                        refine gx_iload_n C 5 dd_Mo_determine_204 (kk := ?_)
                        refine gx_imul C dd_Mo_determine_205 (kk := ?_)
                        refine gx_topi _ (pk_mul _ _) ?_
                        refine gx_iload C 1 dd_Mo_determine_206 (kk := ?_)
                        refine gx_iadd C dd_Mo_determine_208 (kk := ?_)
                        refine gx_topi _ (nI_add _ _) ?_
                        refine mo_l47 C dd_Mo_determine_209 (by omega) (kk := ?_)
                        refine gx_topl _ heq0 ?_
                        refine gx_ladd C dd_Mo_determine_210 (kk := ?_)
                        refine gx_topl _ (lN_add _ _) ?_
                        refine gx_goto C 217 dd_Mo_determine_211 (kk := ?_)
                        have hoa : co_oa (t q) (am_en (σ.1 i) q) = (some (d + e)) := by
                          rw [hvq, heq]
                          rfl
                        refine gx_topl (mf (some (d + e))) rfl ?_
                        refine gx_lstore C _ dd_Mo_determine_217 (kk := ?_)
                        refine gx_lload C 0 dd_Mo_determine_219 (kk := ?_)
                        refine gx_lload C 3 dd_Mo_determine_221 (kk := ?_)
                        refine gx_lcmp C dd_Mo_determine_223 (kk := ?_)
                        refine gx_if_ge C 232 dd_Mo_determine_224 (fun h224 => ?_) (fun h224 => ?_)
                        · refine gx_lload C 3 dd_Mo_determine_232 (kk := ?_)
                          refine gx_topl (mf (ba_le t (am_en (σ.1 i)) (q + 1))) ?_ ?_
                          · rw [lc_ge, ← Int64.not_lt, mf_lt (fun y hy => by cases hy; omega) (fun y hy => by have := ba_le_b htb2 (fun q e he => Nat.lt_trans (hok.1.2.2.2.1 q e he) (by decide)) _ _ hy; omega)] at h224
                            show _ = mf (om (ba_le t (am_en (σ.1 i)) q) (co_oa (t q) (am_en (σ.1 i) q)))
                            rw [hoa, om_n h224]
                          refine gx_lstore C _ dd_Mo_determine_234 (kk := ?_)
                          refine gx_iinc C 3 (nI (q + 1)) _ dd_Mo_determine_236 (nI_1 _) (kk := ?_)
                          refine gx_goto C 147 dd_Mo_determine_239 (kk := ?_)
                          refine gx_loc [0, 1, 4, 5, 6, 7] ?_
                          exact ihq (q + 1) (by omega)
                        · refine gx_lload C 0 dd_Mo_determine_227 (kk := ?_)
                          refine gx_goto C 234 dd_Mo_determine_229 (kk := ?_)
                          refine gx_topl (mf (ba_le t (am_en (σ.1 i)) (q + 1))) ?_ ?_
                          · rw [lc_ge, ← Int64.not_lt, Classical.not_not, mf_lt (fun y hy => by cases hy; omega) (fun y hy => by have := ba_le_b htb2 (fun q e he => Nat.lt_trans (hok.1.2.2.2.1 q e he) (by decide)) _ _ hy; omega)] at h224
                            show _ = mf (om (ba_le t (am_en (σ.1 i)) q) (co_oa (t q) (am_en (σ.1 i) q)))
                            rw [hoa, om_y h224]
                          refine gx_lstore C _ dd_Mo_determine_234 (kk := ?_)
                          refine gx_iinc C 3 (nI (q + 1)) _ dd_Mo_determine_236 (nI_1 _) (kk := ?_)
                          refine gx_goto C 147 dd_Mo_determine_239 (kk := ?_)
                          refine gx_loc [0, 1, 4, 5, 6, 7] ?_
                          exact ihq (q + 1) (by omega)
                exact ends (am_n (σ.1 i)) 0 (by omega)
            exact loop (([], []) : de_S).1.length 0 L5 (by omega) (by rw [de_es_0]; exact mo_is_n hF128 hiv5.1) (mo_w_tr hw5 (mo_w_fr (mo_fr_44 hF128))) rfl
        · rw [hst] at hsq
          have hxab := hok.1.2.2.2.2 xa hst
          refine gx_aload_n C 0 dd_Mo_determine_38 (kk := ?_)
          refine mo_get C fd_Mo_13 dd_Mo_determine_39 (kk := ?_)
          refine gx_iload_n C 1 dd_Mo_determine_42 (kk := ?_)
          refine mo_l45 C dd_Mo_determine_43 (by omega) (kk := ?_)
          refine gx_topi _ hsq.1 ?_
          refine gx_if_lt C 108 dd_Mo_determine_44 (fun h44 => absurd h44 (nI_pos (by omega))) (fun h44 => ?_)
          refine gx_iconst (v := nI 0) C dd_Mo_determine_47 (kk := ?_)
          refine gx_istore_n C _ dd_Mo_determine_48 (kk := ?_)
          have fill : ∀ m t L1, t + m = 16 → (∀ s, s < t → L1 64 s = am_e (ba_v xa.1 s)) → (∀ k, k ≠ 64 → L1 k = L4 k) → gx_G K D 11 0 0 49 [(3, .int (nI t)), (0, .ref (ad 43)), (1, .int (nI i)), (2, .int (nI k))] [] (gx_w ad (mo_h dA ad h F4 L1 S35)) (gx_Z K D dA 0 0 (fun v w => ∃ F2 L2 S2, w = (gx_w ad (mo_h dA ad h F2 L2 S2)) ∧ rs F2 L2 S2 (o_determine σ (nI i) (nI k)).2 ∧ v = some (.int (o_determine σ (nI i) (nI k)).1))) := by
            intro m
            induction m with
            | zero =>
              intro t L1 ht0 hfr hLr
              refine gx_iload_n C 0 dd_Mo_determine_49 (kk := ?_)
              refine gx_bipush (v := nI 16) C dd_Mo_determine_50 (kk := ?_)
              refine gx_icmp_ge C 84 dd_Mo_determine_52 (fun h52 => ?_) (fun h52 => absurd (nI_le (a := 16) (b := t) (by omega) (by omega)) h52)
              refine gx_aload_n C 1 dd_Mo_determine_84 (kk := ?_)
              refine gx_iconst (v := nI 1) C dd_Mo_determine_85 (kk := ?_)
              refine mo_put_27 C fw_Mo_103 dd_Mo_determine_86 (kk := fun S86 hS86 => ?_)
              refine gx_aload_n C 1 dd_Mo_determine_89 (kk := ?_)
              refine mo_get C fd_Mo_13 dd_Mo_determine_90 (kk := ?_)
              refine gx_iconst (v := nI 4) C dd_Mo_determine_93 (kk := ?_)
              refine gx_iconst (v := nI 0) C dd_Mo_determine_94 (kk := ?_)
              refine mo_s45 C dd_Mo_determine_95 (by omega) (kk := fun F95 hF95 => ?_)
              refine gx_aload_n C 1 dd_Mo_determine_96 (kk := ?_)
              refine mo_get C fd_Mo_16 dd_Mo_determine_97 (kk := ?_)
              refine gx_iconst (v := nI 4) C dd_Mo_determine_100 (kk := ?_)
              refine gx_aload_n C 1 dd_Mo_determine_101 (kk := ?_)
              refine mo_get C fd_Mo_16 dd_Mo_determine_102 (kk := ?_)
              refine gx_iload_n C 2 dd_Mo_determine_105 (kk := ?_)
              refine mo_l46 C dd_Mo_determine_106 (by omega) (kk := ?_)
              refine gx_topl (lN xa.2) (by rw [hLr 46 (by decide)]; exact hsq.2) ?_
              refine mo_s46 C dd_Mo_determine_107 (by omega) (kk := fun L107 hL107 => ?_)
              have hw9 : mo_w F L F95 L107 := mo_w_tr hw4 (mo_w_tr (mo_w_k (fun _ _ => rfl) (fun k hk => hLr k (by omega))) (mo_w_fr (mo_fr_tr (mo_fr_45 hF95) (mo_fr_46 hL107))))
              have hiv9 : dg_iv F95 L107 S86 (some (0, xa.2)) ([ba_v xa.1], []) := by
                refine ⟨mo_is_sq (o := some (0, xa.2)) hF95 hL107 ⟨rfl, rfl⟩ (mo_is_k (fun _ _ => rfl) (fun k hk => hLr k (by omega)) hM4), by rw [hS86, gm_us]; rfl, by show 1 ≤ 16; decide, ?_, ?_, List.Pairwise.nil, fun x hx => absurd hx List.not_mem_nil⟩
                · intro k2 v2 hk2 s hs
                  have hk3 : k2 < 1 := (List.getElem?_eq_some_iff.mp hk2).1
                  rw [show k2 = 0 by omega] at hk2 ⊢
                  cases hk2
                  rw [hL107, gm_un (by decide), Nat.mul_zero, Nat.zero_add]
                  exact hfr s (by omega)
                · intro k2 v2 hk2
                  have hk3 : k2 < 1 := (List.getElem?_eq_some_iff.mp hk2).1
                  rw [show k2 = 0 by omega] at hk2 ⊢
                  cases hk2
                  exact sp_b_mono (ba_vb xa.1) (by decide)
              have hS9 : ∀ k, k ≠ 27 → S86 k = S k := fun k hk => by rw [hS86, gm_un hk, hS35, gm_un hk]
              refine gx_aload_n C 1 dd_Mo_determine_108 (kk := ?_)
              refine gx_iload_n C 2 dd_Mo_determine_109 (kk := ?_)
              refine gx_callV C (ct_Mo_gather (gx_l K) D dA ad h F95 L107 S86 hi4 (mo_w_is hw9 hi4 (hM i hi4)) hok.1.2.2.1 hiv9) me_Mo_gather ml_Mo_145 mn_Mo_gather _ (gx_w_at (by decide) mo_h_43) rfl dd_Mo_determine_110 (kk := fun v w hq => ?_)
              obtain ⟨F5, L5, S5, rfl, hwa, hSa, hra⟩ := hq
              have hw5 := mo_w_tr hw9 hwa
              have hS5 := mo_s_r hS9 hSa
              rcases hx : de_ex (am_ar (σ.1 i)) 16 0 ([ba_v xa.1], []) with _ | c5
              · rw [hx] at hra
                obtain rfl : v = _ := hra
                refine gx_if_ne C 119 dd_Mo_determine_113 (fun h113 => absurd rfl h113) (fun h113 => ?_)
                refine gx_bipush (v := -2) C dd_Mo_determine_116 (kk := ?_)
                refine gx_iret C dd_Mo_determine_118 ?_
                have hmk : de_mk (σ.1 i) = none := by
                  unfold de_mk
                  simp only [hst, hx]
                have hsp : o_determine σ (nI i) (nI k) = (-2, σ) := by
                  unfold o_determine
                  simp only [hi, hk]
                  rw [if_pos hfd, hmk]
                  rfl
                rw [hsp]
                exact ⟨_, _, _, rfl, mo_w_rs hw5 (hS5 10 (by decide)) (hS5 14 (by decide)) hr, rfl⟩
              · rw [hx] at hra
                obtain ⟨rfl, hiv5⟩ := hra
                have hl16 := hiv5.2.2.1
                refine gx_if_ne C 119 dd_Mo_determine_113 (fun h113 => ?_) (fun h113 => absurd h113 (by decide))
                refine gx_aload_n C 1 dd_Mo_determine_119 (kk := ?_)
                refine mo_get C fd_Mo_7 dd_Mo_determine_120 (kk := ?_)
                refine gx_iconst (v := nI 4) C dd_Mo_determine_123 (kk := ?_)
                refine gx_aload_n C 1 dd_Mo_determine_124 (kk := ?_)
                refine mo_get C fd_Mo_103 dd_Mo_determine_125 (kk := ?_)
                refine gx_topi _ hiv5.2.1 ?_
                refine mo_s44 C dd_Mo_determine_128 (by omega) (kk := fun F128 hF128 => ?_)
                refine gx_iconst (v := nI 0) C dd_Mo_determine_129 (kk := ?_)
                refine gx_istore_n C _ dd_Mo_determine_130 (kk := ?_)
                have loop : ∀ m k5 L1, k5 + m = c5.1.length → mo_is F128 L1 4 (c5.1.length, (some (0, xa.2) : Option (Nat × Nat)), de_es (σ.1 i) c5.1 k5, c5.2) → mo_w F L F128 L1 → L1 64 = L5 64 → gx_G K D 11 0 0 131 [(3, .int (nI k5)), (0, .ref (ad 43)), (1, .int (nI i)), (2, .int (nI k))] [] (gx_w ad (mo_h dA ad h F128 L1 S5)) (gx_Z K D dA 0 0 (fun v w => ∃ F2 L2 S2, w = (gx_w ad (mo_h dA ad h F2 L2 S2)) ∧ rs F2 L2 S2 (o_determine σ (nI i) (nI k)).2 ∧ v = some (.int (o_determine σ (nI i) (nI k)).1))) := by
                  intro m
                  induction m with
                  | zero =>
                    intro k5 L1 hk5 hM5 hw1 h64
                    refine gx_iload_n C 0 dd_Mo_determine_131 (kk := ?_)
                    refine gx_aload_n C 1 dd_Mo_determine_132 (kk := ?_)
                    refine mo_get C fd_Mo_103 dd_Mo_determine_133 (kk := ?_)
                    refine gx_topi _ hiv5.2.1 ?_
                    refine gx_icmp_ge C 274 dd_Mo_determine_136 (fun h136 => ?_) (fun h136 => absurd (nI_le (a := c5.1.length) (b := k5) (by omega) (by omega)) h136)
                    refine gx_aload_n C 1 dd_Mo_determine_274 (kk := ?_)
                    refine gx_iload_n C 3 dd_Mo_determine_275 (kk := ?_)
                    refine gx_callV C (ct_Mo_keep (gx_l K) D dA ad h F128 L1 S5 (c := k) (B := 35184372088832) (b := (c5.1.length, (some (0, xa.2) : Option (Nat × Nat)), de_es (σ.1 i) c5.1 c5.1.length, c5.2)) (by omega) (by rw [show k5 = c5.1.length by omega] at hM5; exact hM5) hl16 (by decide) (fun x hx => (hiv5.2.2.2.2.2.2 x hx).2) (de_esb (fun k t ht => sp_b_mono (de_tb60 hiv5.2.2.2.2.1 hl16 ht) (by decide)) hok.1.2.2.2.1 c5.1.length) (fun x hx => by cases hx; exact ⟨by show (0 : Nat) < 16; decide, by show xa.2 < _; omega⟩)) me_Mo_keep ml_Mo_126 mn_Mo_keep _ (gx_w_at (by decide) mo_h_43) rfl dd_Mo_determine_276 (kk := fun v w hq => ?_)
                    rcases hq with ⟨hfit, rfl, F7, L7, rfl, hM7, hf7⟩ | ⟨hfit, rfl, rfl⟩
                    · refine gx_if_eq C 289 dd_Mo_determine_279 (fun h279 => absurd h279 (by decide)) (fun h279 => ?_)
                      refine gx_aload_n C 1 dd_Mo_determine_282 (kk := ?_)
                      refine mo_get C fd_Mo_103 dd_Mo_determine_283 (kk := ?_)
                      refine gx_topi _ hiv5.2.1 ?_
                      refine gx_goto C 291 dd_Mo_determine_286 (kk := ?_)
                      refine gx_iret C dd_Mo_determine_291 ?_
                      have hmk : de_mk (σ.1 i) = some (c5.1.length, (some (0, xa.2) : Option (Nat × Nat)), de_es (σ.1 i) c5.1 c5.1.length, c5.2) := by
                        unfold de_mk
                        simp only [hst, hx]
                      have hsp : o_determine σ (nI i) (nI k) = (nI c5.1.length, o_set σ k (c5.1.length, (some (0, xa.2) : Option (Nat × Nat)), de_es (σ.1 i) c5.1 c5.1.length, c5.2)) := by
                        unfold o_determine
                        simp only [hi, hk]
                        rw [if_pos hfd, hmk]
                        exact o_keep_y hfit
                      rw [hsp]
                      exact ⟨F7, L7, _, rfl, rs_set hf7 hM7 (mo_w_rs hw1 (hS5 10 (by decide)) (hS5 14 (by decide)) hr), rfl⟩
                    · refine gx_if_eq C 289 dd_Mo_determine_279 (fun h279 => ?_) (fun h279 => absurd rfl h279)
                      refine gx_bipush (v := -2) C dd_Mo_determine_289 (kk := ?_)
                      refine gx_iret C dd_Mo_determine_291 ?_
                      have hmk : de_mk (σ.1 i) = some (c5.1.length, (some (0, xa.2) : Option (Nat × Nat)), de_es (σ.1 i) c5.1 c5.1.length, c5.2) := by
                        unfold de_mk
                        simp only [hst, hx]
                      have hsp : o_determine σ (nI i) (nI k) = (-2, σ) := by
                        unfold o_determine
                        simp only [hi, hk]
                        rw [if_pos hfd, hmk]
                        exact o_keep_n hfit
                      rw [hsp]
                      exact ⟨_, _, _, rfl, mo_w_rs hw1 (hS5 10 (by decide)) (hS5 14 (by decide)) hr, rfl⟩
                  | succ m ih =>
                    intro k5 L1 hk5 hM5 hw1 h64
                    obtain ⟨t, ht⟩ : ∃ t, c5.1[k5]? = some t := ⟨_, List.getElem?_eq_getElem (by omega)⟩
                    have htb := de_tb60 hiv5.2.2.2.2.1 hl16 ht
                    have htb2 : sp_b 17592186044416 t := sp_b_mono htb (by decide)
                    have hrow : ∀ s, s < 16 → L1 64 (16 * k5 + s) = am_e (t s) := by
                      rw [h64]
                      exact hiv5.2.2.2.1 k5 t ht
                    refine gx_iload_n C 0 dd_Mo_determine_131 (kk := ?_)
                    refine gx_aload_n C 1 dd_Mo_determine_132 (kk := ?_)
                    refine mo_get C fd_Mo_103 dd_Mo_determine_133 (kk := ?_)
                    refine gx_topi _ hiv5.2.1 ?_
                    refine gx_icmp_ge C 274 dd_Mo_determine_136 (fun h136 => absurd h136 (nI_ge (by omega) (by omega))) (fun h136 => ?_)
                    refine gx_ldc2 C dd_Mo_determine_139 kc_Mo_129 (kk := ?_)
                    refine gx_lstore C _ dd_Mo_determine_142 (kk := ?_)
                    refine gx_iconst (v := nI 0) C dd_Mo_determine_144 (kk := ?_)
                    refine gx_istore C _ dd_Mo_determine_145 (kk := ?_)
                    have ends : ∀ m2 q, q + m2 = am_n (σ.1 i) → gx_G K D 11 0 0 147 [(6, .int (nI q)), (4, .long (mf (ba_le t (am_en (σ.1 i)) q))), (3, .int (nI k5)), (0, .ref (ad 43)), (1, .int (nI i)), (2, .int (nI k))] [] (gx_w ad (mo_h dA ad h F128 L1 S5)) (gx_Z K D dA 0 0 (fun v w => ∃ F2 L2 S2, w = (gx_w ad (mo_h dA ad h F2 L2 S2)) ∧ rs F2 L2 S2 (o_determine σ (nI i) (nI k)).2 ∧ v = some (.int (o_determine σ (nI i) (nI k)).1))) := by
                      intro m2
                      induction m2 with
                      | zero =>
                        intro q hq0
                        refine gx_iload C 0 dd_Mo_determine_147 (kk := ?_)
                        refine gx_aload_n C 3 dd_Mo_determine_149 (kk := ?_)
                        refine mo_get C fd_Mo_7 dd_Mo_determine_150 (kk := ?_)
                        refine gx_iload_n C 4 dd_Mo_determine_153 (kk := ?_)
                        refine mo_l44 C dd_Mo_determine_154 (by omega) (kk := ?_)
                        refine gx_topi _ (mo_w_is hw1 hi4 (hM i hi4)).1 ?_
                        refine gx_icmp_ge C 242 dd_Mo_determine_155 (fun h155 => ?_) (fun h155 => absurd (nI_le (a := am_n (σ.1 i)) (b := q) (by omega) (by omega)) h155)
                        obtain rfl : q = am_n (σ.1 i) := by omega
                        rcases hble : ba_le t (am_en (σ.1 i)) (am_n (σ.1 i)) with _ | e
                        · refine gx_aload_n C 3 dd_Mo_determine_242 (kk := ?_)
                          refine mo_get C fd_Mo_20 dd_Mo_determine_243 (kk := ?_)
                          refine gx_bipush (v := nI 64) C dd_Mo_determine_246 (kk := ?_)
                          refine gx_iload_n C 2 dd_Mo_determine_248 (kk := ?_)
                          refine gx_iadd C dd_Mo_determine_249 (kk := ?_)
                          refine gx_topi _ (nI_add _ _) ?_
                          refine gx_lload C 1 dd_Mo_determine_250 (kk := ?_)
                          refine gx_ldc2 C dd_Mo_determine_252 kc_Mo_129 (kk := ?_)
                          refine gx_lcmp C dd_Mo_determine_255 (kk := ?_)
                          refine gx_if_ge C 264 dd_Mo_determine_256 (fun h256 => ?_) (fun h256 => absurd (by decide) h256)
                          refine gx_ldc2 C dd_Mo_determine_264 kc_Mo_79 (kk := ?_)
                          refine mo_s47 C dd_Mo_determine_267 (by omega) (kk := fun L267 hL267 => ?_)
                          refine gx_iinc C 2 (nI (k5 + 1)) _ dd_Mo_determine_268 (nI_1 _) (kk := ?_)
                          refine gx_goto C 131 dd_Mo_determine_271 (kk := ?_)
                          refine gx_loc [0, 3, 4, 5] ?_
                          have hM6 := mo_is_en (s := 4) (q := k5) (o := none) hL267 rfl hM5
                          rw [← hble] at hM6
                          refine ih (k5 + 1) L267 (by omega) ?_ (mo_w_tr hw1 (mo_w_fr (mo_fr_47 (s := 4) (q := k5) (by omega) hL267))) (by rw [hL267, gm_un (by decide)]; exact h64)
                          rw [← de_es_s ht]
                          exact hM6
                        · have heb := ba_le_b htb2 (fun q e he => Nat.lt_trans (hok.1.2.2.2.1 q e he) (by decide)) _ _ hble
                          refine gx_aload_n C 3 dd_Mo_determine_242 (kk := ?_)
                          refine mo_get C fd_Mo_20 dd_Mo_determine_243 (kk := ?_)
                          refine gx_bipush (v := nI 64) C dd_Mo_determine_246 (kk := ?_)
                          refine gx_iload_n C 2 dd_Mo_determine_248 (kk := ?_)
                          refine gx_iadd C dd_Mo_determine_249 (kk := ?_)
                          refine gx_topi _ (nI_add _ _) ?_
                          refine gx_lload C 1 dd_Mo_determine_250 (kk := ?_)
                          refine gx_ldc2 C dd_Mo_determine_252 kc_Mo_129 (kk := ?_)
                          refine gx_lcmp C dd_Mo_determine_255 (kk := ?_)
                          refine gx_if_ge C 264 dd_Mo_determine_256 (fun h256 => absurd (lc_ge.mp h256) (mf_fl (by omega))) (fun h256 => ?_)
                          refine gx_lload C 1 dd_Mo_determine_259 (kk := ?_)
                          refine gx_goto C 267 dd_Mo_determine_261 (kk := ?_)
                          refine mo_s47 C dd_Mo_determine_267 (by omega) (kk := fun L267 hL267 => ?_)
                          refine gx_iinc C 2 (nI (k5 + 1)) _ dd_Mo_determine_268 (nI_1 _) (kk := ?_)
                          refine gx_goto C 131 dd_Mo_determine_271 (kk := ?_)
                          refine gx_loc [0, 3, 4, 5] ?_
                          have hM6 := mo_is_en (s := 4) (q := k5) (o := (some e)) hL267 rfl hM5
                          rw [← hble] at hM6
                          refine ih (k5 + 1) L267 (by omega) ?_ (mo_w_tr hw1 (mo_w_fr (mo_fr_47 (s := 4) (q := k5) (by omega) hL267))) (by rw [hL267, gm_un (by decide)]; exact h64)
                          rw [← de_es_s ht]
                          exact hM6
                      | succ m2 ihq =>
                        intro q hq0
                        refine gx_iload C 0 dd_Mo_determine_147 (kk := ?_)
                        refine gx_aload_n C 3 dd_Mo_determine_149 (kk := ?_)
                        refine mo_get C fd_Mo_7 dd_Mo_determine_150 (kk := ?_)
                        refine gx_iload_n C 4 dd_Mo_determine_153 (kk := ?_)
                        refine mo_l44 C dd_Mo_determine_154 (by omega) (kk := ?_)
                        refine gx_topi _ (mo_w_is hw1 hi4 (hM i hi4)).1 ?_
                        refine gx_icmp_ge C 242 dd_Mo_determine_155 (fun h155 => absurd h155 (nI_ge (by omega) (by omega))) (fun h155 => ?_)
                        refine gx_aload_n C 3 dd_Mo_determine_158 (kk := ?_)
                        refine mo_get C fd_Mo_72 dd_Mo_determine_159 (kk := ?_)
                        refine gx_bipush (v := nI 16) C dd_Mo_determine_162 (kk := ?_)
                        refine gx_iload_n C 2 dd_Mo_determine_164 (kk := ?_)
                        refine gx_imul C dd_Mo_determine_165 (kk := ?_)
                        refine gx_topi _ (pk_mul _ _) ?_
                        refine gx_iload C 0 dd_Mo_determine_166 (kk := ?_)
                        refine gx_iadd C dd_Mo_determine_168 (kk := ?_)
                        refine gx_topi _ (nI_add _ _) ?_
                        refine mo_l64 C dd_Mo_determine_169 (by omega) (kk := ?_)
                        refine gx_topl _ (hrow q (by omega)) ?_
                        refine gx_lstore C _ dd_Mo_determine_170 (kk := ?_)
                        rcases hvq : t q with _ | d
                        · refine gx_lload C 0 dd_Mo_determine_172 (kk := ?_)
                          refine gx_lconst (v := lN 0) C dd_Mo_determine_174 (kk := ?_)
                          refine gx_lcmp C dd_Mo_determine_175 (kk := ?_)
                          refine gx_if_lt C 214 dd_Mo_determine_176 (fun h176 => ?_) (fun h176 => absurd (by decide) h176)
                          refine gx_ldc2 C dd_Mo_determine_214 kc_Mo_129 (kk := ?_)
                          have hoa : co_oa (t q) (am_en (σ.1 i) q) = none := by
                            rw [hvq]
                            rfl
                          refine gx_topl (mf none) rfl ?_
                          refine gx_lstore C _ dd_Mo_determine_217 (kk := ?_)
                          refine gx_lload C 0 dd_Mo_determine_219 (kk := ?_)
                          refine gx_lload C 3 dd_Mo_determine_221 (kk := ?_)
                          refine gx_lcmp C dd_Mo_determine_223 (kk := ?_)
                          refine gx_if_ge C 232 dd_Mo_determine_224 (fun h224 => ?_) (fun h224 => ?_)
                          · refine gx_lload C 3 dd_Mo_determine_232 (kk := ?_)
                            refine gx_topl (mf (ba_le t (am_en (σ.1 i)) (q + 1))) ?_ ?_
                            · rw [lc_ge, ← Int64.not_lt, mf_lt (fun y hy => by cases hy) (fun y hy => by have := ba_le_b htb2 (fun q e he => Nat.lt_trans (hok.1.2.2.2.1 q e he) (by decide)) _ _ hy; omega)] at h224
                              show _ = mf (om (ba_le t (am_en (σ.1 i)) q) (co_oa (t q) (am_en (σ.1 i) q)))
                              rw [hoa, om_n h224]
                            refine gx_lstore C _ dd_Mo_determine_234 (kk := ?_)
                            refine gx_iinc C 3 (nI (q + 1)) _ dd_Mo_determine_236 (nI_1 _) (kk := ?_)
                            refine gx_goto C 147 dd_Mo_determine_239 (kk := ?_)
                            refine gx_loc [0, 1, 4, 5, 6, 7] ?_
                            exact ihq (q + 1) (by omega)
                          · refine gx_lload C 0 dd_Mo_determine_227 (kk := ?_)
                            refine gx_goto C 234 dd_Mo_determine_229 (kk := ?_)
                            refine gx_topl (mf (ba_le t (am_en (σ.1 i)) (q + 1))) ?_ ?_
                            · rw [lc_ge, ← Int64.not_lt, Classical.not_not, mf_lt (fun y hy => by cases hy) (fun y hy => by have := ba_le_b htb2 (fun q e he => Nat.lt_trans (hok.1.2.2.2.1 q e he) (by decide)) _ _ hy; omega)] at h224
                              show _ = mf (om (ba_le t (am_en (σ.1 i)) q) (co_oa (t q) (am_en (σ.1 i) q)))
                              rw [hoa, om_y h224]
                            refine gx_lstore C _ dd_Mo_determine_234 (kk := ?_)
                            refine gx_iinc C 3 (nI (q + 1)) _ dd_Mo_determine_236 (nI_1 _) (kk := ?_)
                            refine gx_goto C 147 dd_Mo_determine_239 (kk := ?_)
                            refine gx_loc [0, 1, 4, 5, 6, 7] ?_
                            exact ihq (q + 1) (by omega)
                        · have hdb := htb q d hvq
                          refine gx_lload C 0 dd_Mo_determine_172 (kk := ?_)
                          refine gx_lconst (v := lN 0) C dd_Mo_determine_174 (kk := ?_)
                          refine gx_lcmp C dd_Mo_determine_175 (kk := ?_)
                          refine gx_if_lt C 214 dd_Mo_determine_176 (fun h176 => absurd (lc_lt.mp h176) (by show ¬ lN d < lN 0; rw [pk_lLT (by omega) (by decide)]; omega)) (fun h176 => ?_)
                          have heq0 := (mo_w_is hw1 hi4 (hM i hi4)).2.2.1 q (by omega)
                          rcases heq : am_en (σ.1 i) q with _ | e
                          · rw [heq] at heq0
                            refine gx_aload_n C 4 dd_Mo_determine_179 (kk := ?_)
                            refine mo_get C fd_Mo_20 dd_Mo_determine_180 (kk := ?_)
                            refine gx_bipush (v := nI 16) C dd_Mo_determine_183 (kk := ?_)
                            refine gx_iload_n C 5 dd_Mo_determine_185 (kk := ?_)
                            refine gx_imul C dd_Mo_determine_186 (kk := ?_)
                            refine gx_topi _ (pk_mul _ _) ?_
                            refine gx_iload C 1 dd_Mo_determine_187 (kk := ?_)
                            refine gx_iadd C dd_Mo_determine_189 (kk := ?_)
                            refine gx_topi _ (nI_add _ _) ?_
                            refine mo_l47 C dd_Mo_determine_190 (by omega) (kk := ?_)
                            refine gx_topl _ heq0 ?_
                            refine gx_lconst (v := lN 0) C dd_Mo_determine_191 (kk := ?_)
                            refine gx_lcmp C dd_Mo_determine_192 (kk := ?_)
                            refine gx_if_lt C 214 dd_Mo_determine_193 (fun h193 => ?_) (fun h193 => absurd (by decide) h193)
                            refine gx_ldc2 C dd_Mo_determine_214 kc_Mo_129 (kk := ?_)
                            have hoa : co_oa (t q) (am_en (σ.1 i) q) = none := by
                              rw [hvq, heq]
                              rfl
                            refine gx_topl (mf none) rfl ?_
                            refine gx_lstore C _ dd_Mo_determine_217 (kk := ?_)
                            refine gx_lload C 0 dd_Mo_determine_219 (kk := ?_)
                            refine gx_lload C 3 dd_Mo_determine_221 (kk := ?_)
                            refine gx_lcmp C dd_Mo_determine_223 (kk := ?_)
                            refine gx_if_ge C 232 dd_Mo_determine_224 (fun h224 => ?_) (fun h224 => ?_)
                            · refine gx_lload C 3 dd_Mo_determine_232 (kk := ?_)
                              refine gx_topl (mf (ba_le t (am_en (σ.1 i)) (q + 1))) ?_ ?_
                              · rw [lc_ge, ← Int64.not_lt, mf_lt (fun y hy => by cases hy) (fun y hy => by have := ba_le_b htb2 (fun q e he => Nat.lt_trans (hok.1.2.2.2.1 q e he) (by decide)) _ _ hy; omega)] at h224
                                show _ = mf (om (ba_le t (am_en (σ.1 i)) q) (co_oa (t q) (am_en (σ.1 i) q)))
                                rw [hoa, om_n h224]
                              refine gx_lstore C _ dd_Mo_determine_234 (kk := ?_)
                              refine gx_iinc C 3 (nI (q + 1)) _ dd_Mo_determine_236 (nI_1 _) (kk := ?_)
                              refine gx_goto C 147 dd_Mo_determine_239 (kk := ?_)
                              refine gx_loc [0, 1, 4, 5, 6, 7] ?_
                              exact ihq (q + 1) (by omega)
                            · refine gx_lload C 0 dd_Mo_determine_227 (kk := ?_)
                              refine gx_goto C 234 dd_Mo_determine_229 (kk := ?_)
                              refine gx_topl (mf (ba_le t (am_en (σ.1 i)) (q + 1))) ?_ ?_
                              · rw [lc_ge, ← Int64.not_lt, Classical.not_not, mf_lt (fun y hy => by cases hy) (fun y hy => by have := ba_le_b htb2 (fun q e he => Nat.lt_trans (hok.1.2.2.2.1 q e he) (by decide)) _ _ hy; omega)] at h224
                                show _ = mf (om (ba_le t (am_en (σ.1 i)) q) (co_oa (t q) (am_en (σ.1 i) q)))
                                rw [hoa, om_y h224]
                              refine gx_lstore C _ dd_Mo_determine_234 (kk := ?_)
                              refine gx_iinc C 3 (nI (q + 1)) _ dd_Mo_determine_236 (nI_1 _) (kk := ?_)
                              refine gx_goto C 147 dd_Mo_determine_239 (kk := ?_)
                              refine gx_loc [0, 1, 4, 5, 6, 7] ?_
                              exact ihq (q + 1) (by omega)
                          · rw [heq] at heq0
                            have heb := hok.1.2.2.2.1 _ _ heq
                            refine gx_aload_n C 4 dd_Mo_determine_179 (kk := ?_)
                            refine mo_get C fd_Mo_20 dd_Mo_determine_180 (kk := ?_)
                            refine gx_bipush (v := nI 16) C dd_Mo_determine_183 (kk := ?_)
                            refine gx_iload_n C 5 dd_Mo_determine_185 (kk := ?_)
                            refine gx_imul C dd_Mo_determine_186 (kk := ?_)
                            refine gx_topi _ (pk_mul _ _) ?_
                            refine gx_iload C 1 dd_Mo_determine_187 (kk := ?_)
                            refine gx_iadd C dd_Mo_determine_189 (kk := ?_)
                            refine gx_topi _ (nI_add _ _) ?_
                            refine mo_l47 C dd_Mo_determine_190 (by omega) (kk := ?_)
                            refine gx_topl _ heq0 ?_
                            refine gx_lconst (v := lN 0) C dd_Mo_determine_191 (kk := ?_)
                            refine gx_lcmp C dd_Mo_determine_192 (kk := ?_)
                            refine gx_if_lt C 214 dd_Mo_determine_193 (fun h193 => absurd (lc_lt.mp h193) (by show ¬ lN e < lN 0; rw [pk_lLT (by omega) (by decide)]; omega)) (fun h193 => ?_)
                            refine gx_lload C 0 dd_Mo_determine_196 (kk := ?_)
                            refine gx_topl (lN d) rfl ?_
                            refine gx_aload_n C 4 dd_Mo_determine_198 (kk := ?_)
                            refine mo_get C fd_Mo_20 dd_Mo_determine_199 (kk := ?_)
                            refine gx_bipush (v := nI 16) C dd_Mo_determine_202 (kk := ?_)
                            refine gx_iload_n C 5 dd_Mo_determine_204 (kk := ?_)
                            refine gx_imul C dd_Mo_determine_205 (kk := ?_)
                            refine gx_topi _ (pk_mul _ _) ?_
                            refine gx_iload C 1 dd_Mo_determine_206 (kk := ?_)
                            refine gx_iadd C dd_Mo_determine_208 (kk := ?_)
                            refine gx_topi _ (nI_add _ _) ?_
                            refine mo_l47 C dd_Mo_determine_209 (by omega) (kk := ?_)
                            refine gx_topl _ heq0 ?_
                            refine gx_ladd C dd_Mo_determine_210 (kk := ?_)
                            refine gx_topl _ (lN_add _ _) ?_
                            refine gx_goto C 217 dd_Mo_determine_211 (kk := ?_)
                            have hoa : co_oa (t q) (am_en (σ.1 i) q) = (some (d + e)) := by
                              rw [hvq, heq]
                              rfl
                            refine gx_topl (mf (some (d + e))) rfl ?_
                            refine gx_lstore C _ dd_Mo_determine_217 (kk := ?_)
                            refine gx_lload C 0 dd_Mo_determine_219 (kk := ?_)
                            refine gx_lload C 3 dd_Mo_determine_221 (kk := ?_)
                            refine gx_lcmp C dd_Mo_determine_223 (kk := ?_)
                            refine gx_if_ge C 232 dd_Mo_determine_224 (fun h224 => ?_) (fun h224 => ?_)
                            · refine gx_lload C 3 dd_Mo_determine_232 (kk := ?_)
                              refine gx_topl (mf (ba_le t (am_en (σ.1 i)) (q + 1))) ?_ ?_
                              · rw [lc_ge, ← Int64.not_lt, mf_lt (fun y hy => by cases hy; omega) (fun y hy => by have := ba_le_b htb2 (fun q e he => Nat.lt_trans (hok.1.2.2.2.1 q e he) (by decide)) _ _ hy; omega)] at h224
                                show _ = mf (om (ba_le t (am_en (σ.1 i)) q) (co_oa (t q) (am_en (σ.1 i) q)))
                                rw [hoa, om_n h224]
                              refine gx_lstore C _ dd_Mo_determine_234 (kk := ?_)
                              refine gx_iinc C 3 (nI (q + 1)) _ dd_Mo_determine_236 (nI_1 _) (kk := ?_)
                              refine gx_goto C 147 dd_Mo_determine_239 (kk := ?_)
                              refine gx_loc [0, 1, 4, 5, 6, 7] ?_
                              exact ihq (q + 1) (by omega)
                            · refine gx_lload C 0 dd_Mo_determine_227 (kk := ?_)
                              refine gx_goto C 234 dd_Mo_determine_229 (kk := ?_)
                              refine gx_topl (mf (ba_le t (am_en (σ.1 i)) (q + 1))) ?_ ?_
                              · rw [lc_ge, ← Int64.not_lt, Classical.not_not, mf_lt (fun y hy => by cases hy; omega) (fun y hy => by have := ba_le_b htb2 (fun q e he => Nat.lt_trans (hok.1.2.2.2.1 q e he) (by decide)) _ _ hy; omega)] at h224
                                show _ = mf (om (ba_le t (am_en (σ.1 i)) q) (co_oa (t q) (am_en (σ.1 i) q)))
                                rw [hoa, om_y h224]
                              refine gx_lstore C _ dd_Mo_determine_234 (kk := ?_)
                              refine gx_iinc C 3 (nI (q + 1)) _ dd_Mo_determine_236 (nI_1 _) (kk := ?_)
                              refine gx_goto C 147 dd_Mo_determine_239 (kk := ?_)
                              refine gx_loc [0, 1, 4, 5, 6, 7] ?_
                              exact ihq (q + 1) (by omega)
                    exact ends (am_n (σ.1 i)) 0 (by omega)
                exact loop c5.1.length 0 L5 (by omega) (by rw [de_es_0]; exact mo_is_n hF128 hiv5.1) (mo_w_tr hw5 (mo_w_fr (mo_fr_44 hF128))) rfl
            | succ m ih =>
              intro t L1 ht0 hfr hLr
              refine gx_iload_n C 0 dd_Mo_determine_49 (kk := ?_)
              refine gx_bipush (v := nI 16) C dd_Mo_determine_50 (kk := ?_)
              refine gx_icmp_ge C 84 dd_Mo_determine_52 (fun h52 => absurd h52 (nI_ge (by omega) (by omega))) (fun h52 => ?_)
              refine gx_aload_n C 1 dd_Mo_determine_55 (kk := ?_)
              refine mo_get C fd_Mo_72 dd_Mo_determine_56 (kk := ?_)
              refine gx_iload_n C 0 dd_Mo_determine_59 (kk := ?_)
              by_cases htx : t = xa.1
              · refine gx_iload_n C 0 dd_Mo_determine_60 (kk := ?_)
                refine gx_aload_n C 1 dd_Mo_determine_61 (kk := ?_)
                refine mo_get C fd_Mo_13 dd_Mo_determine_62 (kk := ?_)
                refine gx_iload_n C 2 dd_Mo_determine_65 (kk := ?_)
                refine mo_l45 C dd_Mo_determine_66 (by omega) (kk := ?_)
                refine gx_topi _ hsq.1 ?_
                refine gx_icmp_ne C 74 dd_Mo_determine_67 (fun h67 => absurd (congrArg nI htx) h67) (fun h67 => ?_)
                refine gx_lconst (v := lN 0) C dd_Mo_determine_70 (kk := ?_)
                refine gx_goto C 77 dd_Mo_determine_71 (kk := ?_)
                refine mo_s64 C dd_Mo_determine_77 (by omega) (kk := fun L77 hL77 => ?_)
                refine gx_iinc C 0 (nI (t + 1)) _ dd_Mo_determine_78 (nI_1 _) (kk := ?_)
                refine gx_goto C 49 dd_Mo_determine_81 (kk := ?_)
                refine ih (t + 1) L77 (by omega) (fun s hs => ?_) (fun k hk => by rw [hL77, gm_un hk]; exact hLr k hk)
                rw [hL77, gm_us]
                by_cases hst2 : s = t
                · rw [hst2, pk_uLs]
                  unfold ba_v
                  rw [if_pos htx]
                  rfl
                · rw [pk_uLn hst2]
                  exact hfr s (by omega)
              · refine gx_iload_n C 0 dd_Mo_determine_60 (kk := ?_)
                refine gx_aload_n C 1 dd_Mo_determine_61 (kk := ?_)
                refine mo_get C fd_Mo_13 dd_Mo_determine_62 (kk := ?_)
                refine gx_iload_n C 2 dd_Mo_determine_65 (kk := ?_)
                refine mo_l45 C dd_Mo_determine_66 (by omega) (kk := ?_)
                refine gx_topi _ hsq.1 ?_
                refine gx_icmp_ne C 74 dd_Mo_determine_67 (fun h67 => ?_) (fun h67 => absurd ((nI_eq (by omega) (by omega)).mp h67) htx)
                refine gx_ldc2 C dd_Mo_determine_74 kc_Mo_79 (kk := ?_)
                refine mo_s64 C dd_Mo_determine_77 (by omega) (kk := fun L77 hL77 => ?_)
                refine gx_iinc C 0 (nI (t + 1)) _ dd_Mo_determine_78 (nI_1 _) (kk := ?_)
                refine gx_goto C 49 dd_Mo_determine_81 (kk := ?_)
                refine ih (t + 1) L77 (by omega) (fun s hs => ?_) (fun k hk => by rw [hL77, gm_un hk]; exact hLr k hk)
                rw [hL77, gm_us]
                by_cases hst2 : s = t
                · rw [hst2, pk_uLs]
                  unfold ba_v
                  rw [if_neg htx]
                  rfl
                · rw [pk_uLn hst2]
                  exact hfr s (by omega)
          exact fill 16 0 L4 rfl (fun s hs => absurd hs (Nat.not_lt_zero _)) (fun _ _ => rfl)
      · refine gx_if_ne C 27 dd_Mo_determine_21 (fun h21 => absurd rfl h21) (fun h21 => ?_)
        refine gx_bipush (v := -3) C dd_Mo_determine_24 (kk := ?_)
        refine gx_iret C dd_Mo_determine_26 ?_
        have hsp : o_determine σ (nI i) (nI k) = (-3, σ) := by
          unfold o_determine
          simp only [hi, hk]
          rw [if_neg hfd]
        rw [hsp]
        exact ⟨_, _, _, rfl, mo_w_rs hw2 rfl rfl hr, rfl⟩
