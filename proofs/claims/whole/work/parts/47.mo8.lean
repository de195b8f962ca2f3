theorem dd_Mo_findOnward_0 : decode cc_Mo_findOnward 0 = .ok (.iconst 0, 1) := by decide +kernel
theorem dd_Mo_findOnward_1 : decode cc_Mo_findOnward 1 = .ok (.istore_n 2, 1) := by decide +kernel
theorem dd_Mo_findOnward_2 : decode cc_Mo_findOnward 2 = .ok (.iload_n 2, 1) := by decide +kernel
theorem dd_Mo_findOnward_3 : decode cc_Mo_findOnward 3 = .ok (.bipush 16, 2) := by decide +kernel
theorem dd_Mo_findOnward_5 : decode cc_Mo_findOnward 5 = .ok (.if_icmp .ge 75, 3) := by decide +kernel
theorem dd_Mo_findOnward_8 : decode cc_Mo_findOnward 8 = .ok (.iload_n 2, 1) := by decide +kernel
theorem dd_Mo_findOnward_9 : decode cc_Mo_findOnward 9 = .ok (.aload_n 0, 1) := by decide +kernel
theorem dd_Mo_findOnward_10 : decode cc_Mo_findOnward 10 = .ok (.getfield 7, 3) := by decide +kernel
theorem dd_Mo_findOnward_13 : decode cc_Mo_findOnward 13 = .ok (.iload_n 1, 1) := by decide +kernel
theorem dd_Mo_findOnward_14 : decode cc_Mo_findOnward 14 = .ok (.iaload, 1) := by decide +kernel
theorem dd_Mo_findOnward_15 : decode cc_Mo_findOnward 15 = .ok (.if_icmp .ge 23, 3) := by decide +kernel
theorem dd_Mo_findOnward_18 : decode cc_Mo_findOnward 18 = .ok (.aload_n 0, 1) := by decide +kernel
theorem dd_Mo_findOnward_19 : decode cc_Mo_findOnward 19 = .ok (.getfield 20, 3) := by decide +kernel
theorem dd_Mo_findOnward_22 : decode cc_Mo_findOnward 22 = .ok (.bipush 16, 2) := by decide +kernel
theorem dd_Mo_findOnward_24 : decode cc_Mo_findOnward 24 = .ok (.iload_n 1, 1) := by decide +kernel
theorem dd_Mo_findOnward_25 : decode cc_Mo_findOnward 25 = .ok (.imul, 1) := by decide +kernel
theorem dd_Mo_findOnward_26 : decode cc_Mo_findOnward 26 = .ok (.iload_n 2, 1) := by decide +kernel
theorem dd_Mo_findOnward_27 : decode cc_Mo_findOnward 27 = .ok (.iadd, 1) := by decide +kernel
theorem dd_Mo_findOnward_28 : decode cc_Mo_findOnward 28 = .ok (.laload, 1) := by decide +kernel
theorem dd_Mo_findOnward_29 : decode cc_Mo_findOnward 29 = .ok (.lconst 0, 1) := by decide +kernel
theorem dd_Mo_findOnward_30 : decode cc_Mo_findOnward 30 = .ok (.lcmp, 1) := by decide +kernel
theorem dd_Mo_findOnward_31 : decode cc_Mo_findOnward 31 = .ok (.ifCond .lt 7, 3) := by decide +kernel
theorem dd_Mo_findOnward_34 : decode cc_Mo_findOnward 34 = .ok (.iconst 1, 1) := by decide +kernel
theorem dd_Mo_findOnward_35 : decode cc_Mo_findOnward 35 = .ok (.goto 4, 3) := by decide +kernel
theorem dd_Mo_findOnward_38 : decode cc_Mo_findOnward 38 = .ok (.iconst 0, 1) := by decide +kernel
theorem dd_Mo_findOnward_39 : decode cc_Mo_findOnward 39 = .ok (.istore_n 3, 1) := by decide +kernel
theorem dd_Mo_findOnward_40 : decode cc_Mo_findOnward 40 = .ok (.aload_n 0, 1) := by decide +kernel
theorem dd_Mo_findOnward_41 : decode cc_Mo_findOnward 41 = .ok (.getfield 50, 3) := by decide +kernel
theorem dd_Mo_findOnward_44 : decode cc_Mo_findOnward 44 = .ok (.iload_n 2, 1) := by decide +kernel
theorem dd_Mo_findOnward_45 : decode cc_Mo_findOnward 45 = .ok (.iload_n 3, 1) := by decide +kernel
theorem dd_Mo_findOnward_46 : decode cc_Mo_findOnward 46 = .ok (.ifCond .eq 17, 3) := by decide +kernel
theorem dd_Mo_findOnward_49 : decode cc_Mo_findOnward 49 = .ok (.aload_n 0, 1) := by decide +kernel
theorem dd_Mo_findOnward_50 : decode cc_Mo_findOnward 50 = .ok (.getfield 20, 3) := by decide +kernel
theorem dd_Mo_findOnward_53 : decode cc_Mo_findOnward 53 = .ok (.bipush 16, 2) := by decide +kernel
theorem dd_Mo_findOnward_55 : decode cc_Mo_findOnward 55 = .ok (.iload_n 1, 1) := by decide +kernel
theorem dd_Mo_findOnward_56 : decode cc_Mo_findOnward 56 = .ok (.imul, 1) := by decide +kernel
theorem dd_Mo_findOnward_57 : decode cc_Mo_findOnward 57 = .ok (.iload_n 2, 1) := by decide +kernel
theorem dd_Mo_findOnward_58 : decode cc_Mo_findOnward 58 = .ok (.iadd, 1) := by decide +kernel
theorem dd_Mo_findOnward_59 : decode cc_Mo_findOnward 59 = .ok (.laload, 1) := by decide +kernel
theorem dd_Mo_findOnward_60 : decode cc_Mo_findOnward 60 = .ok (.goto 6, 3) := by decide +kernel
theorem dd_Mo_findOnward_63 : decode cc_Mo_findOnward 63 = .ok (.ldc2_w 129, 3) := by decide +kernel
theorem dd_Mo_findOnward_66 : decode cc_Mo_findOnward 66 = .ok (.lastore, 1) := by decide +kernel
theorem dd_Mo_findOnward_67 : decode cc_Mo_findOnward 67 = .ok (.aload_n 0, 1) := by decide +kernel
theorem dd_Mo_findOnward_68 : decode cc_Mo_findOnward 68 = .ok (.getfield 53, 3) := by decide +kernel
theorem dd_Mo_findOnward_71 : decode cc_Mo_findOnward 71 = .ok (.iload_n 2, 1) := by decide +kernel
theorem dd_Mo_findOnward_72 : decode cc_Mo_findOnward 72 = .ok (.iconst 0, 1) := by decide +kernel
theorem dd_Mo_findOnward_73 : decode cc_Mo_findOnward 73 = .ok (.iastore, 1) := by decide +kernel
theorem dd_Mo_findOnward_74 : decode cc_Mo_findOnward 74 = .ok (.iinc 2 1, 3) := by decide +kernel
theorem dd_Mo_findOnward_77 : decode cc_Mo_findOnward 77 = .ok (.goto (-75), 3) := by decide +kernel
theorem dd_Mo_findOnward_80 : decode cc_Mo_findOnward 80 = .ok (.iconst 0, 1) := by decide +kernel
theorem dd_Mo_findOnward_81 : decode cc_Mo_findOnward 81 = .ok (.istore_n 2, 1) := by decide +kernel
theorem dd_Mo_findOnward_82 : decode cc_Mo_findOnward 82 = .ok (.iload_n 2, 1) := by decide +kernel
theorem dd_Mo_findOnward_83 : decode cc_Mo_findOnward 83 = .ok (.bipush 40, 2) := by decide +kernel
theorem dd_Mo_findOnward_85 : decode cc_Mo_findOnward 85 = .ok (.if_icmp .ge 167, 3) := by decide +kernel
theorem dd_Mo_findOnward_88 : decode cc_Mo_findOnward 88 = .ok (.bipush 65, 2) := by decide +kernel
theorem dd_Mo_findOnward_90 : decode cc_Mo_findOnward 90 = .ok (.iload_n 1, 1) := by decide +kernel
theorem dd_Mo_findOnward_91 : decode cc_Mo_findOnward 91 = .ok (.imul, 1) := by decide +kernel
theorem dd_Mo_findOnward_92 : decode cc_Mo_findOnward 92 = .ok (.istore_n 3, 1) := by decide +kernel
theorem dd_Mo_findOnward_93 : decode cc_Mo_findOnward 93 = .ok (.iload_n 3, 1) := by decide +kernel
theorem dd_Mo_findOnward_94 : decode cc_Mo_findOnward 94 = .ok (.bipush 65, 2) := by decide +kernel
theorem dd_Mo_findOnward_96 : decode cc_Mo_findOnward 96 = .ok (.iload_n 1, 1) := by decide +kernel
theorem dd_Mo_findOnward_97 : decode cc_Mo_findOnward 97 = .ok (.imul, 1) := by decide +kernel
theorem dd_Mo_findOnward_98 : decode cc_Mo_findOnward 98 = .ok (.aload_n 0, 1) := by decide +kernel
theorem dd_Mo_findOnward_99 : decode cc_Mo_findOnward 99 = .ok (.getfield 23, 3) := by decide +kernel
theorem dd_Mo_findOnward_102 : decode cc_Mo_findOnward 102 = .ok (.iload_n 1, 1) := by decide +kernel
theorem dd_Mo_findOnward_103 : decode cc_Mo_findOnward 103 = .ok (.iaload, 1) := by decide +kernel
theorem dd_Mo_findOnward_104 : decode cc_Mo_findOnward 104 = .ok (.iadd, 1) := by decide +kernel
theorem dd_Mo_findOnward_105 : decode cc_Mo_findOnward 105 = .ok (.if_icmp .ge 141, 3) := by decide +kernel
theorem dd_Mo_findOnward_108 : decode cc_Mo_findOnward 108 = .ok (.aload_n 0, 1) := by decide +kernel
theorem dd_Mo_findOnward_109 : decode cc_Mo_findOnward 109 = .ok (.getfield 50, 3) := by decide +kernel
theorem dd_Mo_findOnward_112 : decode cc_Mo_findOnward 112 = .ok (.aload_n 0, 1) := by decide +kernel
theorem dd_Mo_findOnward_113 : decode cc_Mo_findOnward 113 = .ok (.getfield 29, 3) := by decide +kernel
theorem dd_Mo_findOnward_116 : decode cc_Mo_findOnward 116 = .ok (.iload_n 3, 1) := by decide +kernel
theorem dd_Mo_findOnward_117 : decode cc_Mo_findOnward 117 = .ok (.iaload, 1) := by decide +kernel
theorem dd_Mo_findOnward_118 : decode cc_Mo_findOnward 118 = .ok (.laload, 1) := by decide +kernel
theorem dd_Mo_findOnward_119 : decode cc_Mo_findOnward 119 = .ok (.ldc2_w 129, 3) := by decide +kernel
theorem dd_Mo_findOnward_122 : decode cc_Mo_findOnward 122 = .ok (.lcmp, 1) := by decide +kernel
theorem dd_Mo_findOnward_123 : decode cc_Mo_findOnward 123 = .ok (.ifCond .ge 24, 3) := by decide +kernel
theorem dd_Mo_findOnward_126 : decode cc_Mo_findOnward 126 = .ok (.aload_n 0, 1) := by decide +kernel
theorem dd_Mo_findOnward_127 : decode cc_Mo_findOnward 127 = .ok (.getfield 50, 3) := by decide +kernel
theorem dd_Mo_findOnward_130 : decode cc_Mo_findOnward 130 = .ok (.aload_n 0, 1) := by decide +kernel
theorem dd_Mo_findOnward_131 : decode cc_Mo_findOnward 131 = .ok (.getfield 29, 3) := by decide +kernel
theorem dd_Mo_findOnward_134 : decode cc_Mo_findOnward 134 = .ok (.iload_n 3, 1) := by decide +kernel
theorem dd_Mo_findOnward_135 : decode cc_Mo_findOnward 135 = .ok (.iaload, 1) := by decide +kernel
theorem dd_Mo_findOnward_136 : decode cc_Mo_findOnward 136 = .ok (.laload, 1) := by decide +kernel
theorem dd_Mo_findOnward_137 : decode cc_Mo_findOnward 137 = .ok (.aload_n 0, 1) := by decide +kernel
theorem dd_Mo_findOnward_138 : decode cc_Mo_findOnward 138 = .ok (.getfield 38, 3) := by decide +kernel
theorem dd_Mo_findOnward_141 : decode cc_Mo_findOnward 141 = .ok (.iload_n 3, 1) := by decide +kernel
theorem dd_Mo_findOnward_142 : decode cc_Mo_findOnward 142 = .ok (.laload, 1) := by decide +kernel
theorem dd_Mo_findOnward_143 : decode cc_Mo_findOnward 143 = .ok (.ladd, 1) := by decide +kernel
theorem dd_Mo_findOnward_144 : decode cc_Mo_findOnward 144 = .ok (.goto 6, 3) := by decide +kernel
theorem dd_Mo_findOnward_147 : decode cc_Mo_findOnward 147 = .ok (.ldc2_w 129, 3) := by decide +kernel
theorem dd_Mo_findOnward_150 : decode cc_Mo_findOnward 150 = .ok (.lstore 4, 2) := by decide +kernel
theorem dd_Mo_findOnward_152 : decode cc_Mo_findOnward 152 = .ok (.aload_n 0, 1) := by decide +kernel
theorem dd_Mo_findOnward_153 : decode cc_Mo_findOnward 153 = .ok (.getfield 53, 3) := by decide +kernel
theorem dd_Mo_findOnward_156 : decode cc_Mo_findOnward 156 = .ok (.aload_n 0, 1) := by decide +kernel
theorem dd_Mo_findOnward_157 : decode cc_Mo_findOnward 157 = .ok (.getfield 29, 3) := by decide +kernel
theorem dd_Mo_findOnward_160 : decode cc_Mo_findOnward 160 = .ok (.iload_n 3, 1) := by decide +kernel
theorem dd_Mo_findOnward_161 : decode cc_Mo_findOnward 161 = .ok (.iaload, 1) := by decide +kernel
theorem dd_Mo_findOnward_162 : decode cc_Mo_findOnward 162 = .ok (.iaload, 1) := by decide +kernel
theorem dd_Mo_findOnward_163 : decode cc_Mo_findOnward 163 = .ok (.iconst 1, 1) := by decide +kernel
theorem dd_Mo_findOnward_164 : decode cc_Mo_findOnward 164 = .ok (.iadd, 1) := by decide +kernel
theorem dd_Mo_findOnward_165 : decode cc_Mo_findOnward 165 = .ok (.istore 6, 2) := by decide +kernel
theorem dd_Mo_findOnward_167 : decode cc_Mo_findOnward 167 = .ok (.aload_n 0, 1) := by decide +kernel
theorem dd_Mo_findOnward_168 : decode cc_Mo_findOnward 168 = .ok (.getfield 26, 3) := by decide +kernel
theorem dd_Mo_findOnward_171 : decode cc_Mo_findOnward 171 = .ok (.iload_n 3, 1) := by decide +kernel
theorem dd_Mo_findOnward_172 : decode cc_Mo_findOnward 172 = .ok (.iaload, 1) := by decide +kernel
theorem dd_Mo_findOnward_173 : decode cc_Mo_findOnward 173 = .ok (.istore 7, 2) := by decide +kernel
theorem dd_Mo_findOnward_175 : decode cc_Mo_findOnward 175 = .ok (.lload 4, 2) := by decide +kernel
theorem dd_Mo_findOnward_177 : decode cc_Mo_findOnward 177 = .ok (.aload_n 0, 1) := by decide +kernel
theorem dd_Mo_findOnward_178 : decode cc_Mo_findOnward 178 = .ok (.getfield 50, 3) := by decide +kernel
theorem dd_Mo_findOnward_181 : decode cc_Mo_findOnward 181 = .ok (.iload 7, 2) := by decide +kernel
theorem dd_Mo_findOnward_183 : decode cc_Mo_findOnward 183 = .ok (.laload, 1) := by decide +kernel
theorem dd_Mo_findOnward_184 : decode cc_Mo_findOnward 184 = .ok (.lcmp, 1) := by decide +kernel
theorem dd_Mo_findOnward_185 : decode cc_Mo_findOnward 185 = .ok (.ifCond .lt 37, 3) := by decide +kernel
theorem dd_Mo_findOnward_188 : decode cc_Mo_findOnward 188 = .ok (.lload 4, 2) := by decide +kernel
theorem dd_Mo_findOnward_190 : decode cc_Mo_findOnward 190 = .ok (.ldc2_w 129, 3) := by decide +kernel
theorem dd_Mo_findOnward_193 : decode cc_Mo_findOnward 193 = .ok (.lcmp, 1) := by decide +kernel
theorem dd_Mo_findOnward_194 : decode cc_Mo_findOnward 194 = .ok (.ifCond .ge 46, 3) := by decide +kernel
theorem dd_Mo_findOnward_197 : decode cc_Mo_findOnward 197 = .ok (.lload 4, 2) := by decide +kernel
theorem dd_Mo_findOnward_199 : decode cc_Mo_findOnward 199 = .ok (.aload_n 0, 1) := by decide +kernel
theorem dd_Mo_findOnward_200 : decode cc_Mo_findOnward 200 = .ok (.getfield 50, 3) := by decide +kernel
theorem dd_Mo_findOnward_203 : decode cc_Mo_findOnward 203 = .ok (.iload 7, 2) := by decide +kernel
theorem dd_Mo_findOnward_205 : decode cc_Mo_findOnward 205 = .ok (.laload, 1) := by decide +kernel
theorem dd_Mo_findOnward_206 : decode cc_Mo_findOnward 206 = .ok (.lcmp, 1) := by decide +kernel
theorem dd_Mo_findOnward_207 : decode cc_Mo_findOnward 207 = .ok (.ifCond .ne 33, 3) := by decide +kernel
theorem dd_Mo_findOnward_210 : decode cc_Mo_findOnward 210 = .ok (.iload 6, 2) := by decide +kernel
theorem dd_Mo_findOnward_212 : decode cc_Mo_findOnward 212 = .ok (.aload_n 0, 1) := by decide +kernel
theorem dd_Mo_findOnward_213 : decode cc_Mo_findOnward 213 = .ok (.getfield 53, 3) := by decide +kernel
theorem dd_Mo_findOnward_216 : decode cc_Mo_findOnward 216 = .ok (.iload 7, 2) := by decide +kernel
theorem dd_Mo_findOnward_218 : decode cc_Mo_findOnward 218 = .ok (.iaload, 1) := by decide +kernel
theorem dd_Mo_findOnward_219 : decode cc_Mo_findOnward 219 = .ok (.if_icmp .ge 21, 3) := by decide +kernel
theorem dd_Mo_findOnward_222 : decode cc_Mo_findOnward 222 = .ok (.aload_n 0, 1) := by decide +kernel
theorem dd_Mo_findOnward_223 : decode cc_Mo_findOnward 223 = .ok (.getfield 50, 3) := by decide +kernel
theorem dd_Mo_findOnward_226 : decode cc_Mo_findOnward 226 = .ok (.iload 7, 2) := by decide +kernel
theorem dd_Mo_findOnward_228 : decode cc_Mo_findOnward 228 = .ok (.lload 4, 2) := by decide +kernel
theorem dd_Mo_findOnward_230 : decode cc_Mo_findOnward 230 = .ok (.lastore, 1) := by decide +kernel
theorem dd_Mo_findOnward_231 : decode cc_Mo_findOnward 231 = .ok (.aload_n 0, 1) := by decide +kernel
theorem dd_Mo_findOnward_232 : decode cc_Mo_findOnward 232 = .ok (.getfield 53, 3) := by decide +kernel
theorem dd_Mo_findOnward_235 : decode cc_Mo_findOnward 235 = .ok (.iload 7, 2) := by decide +kernel
theorem dd_Mo_findOnward_237 : decode cc_Mo_findOnward 237 = .ok (.iload 6, 2) := by decide +kernel
theorem dd_Mo_findOnward_239 : decode cc_Mo_findOnward 239 = .ok (.iastore, 1) := by decide +kernel
theorem dd_Mo_findOnward_240 : decode cc_Mo_findOnward 240 = .ok (.iinc 3 1, 3) := by decide +kernel
theorem dd_Mo_findOnward_243 : decode cc_Mo_findOnward 243 = .ok (.goto (-150), 3) := by decide +kernel
theorem dd_Mo_findOnward_246 : decode cc_Mo_findOnward 246 = .ok (.iinc 2 1, 3) := by decide +kernel
theorem dd_Mo_findOnward_249 : decode cc_Mo_findOnward 249 = .ok (.goto (-167), 3) := by decide +kernel
theorem dd_Mo_findOnward_252 : decode cc_Mo_findOnward 252 = .ok (.return_, 1) := by decide +kernel
theorem dd_Mo_push_0 : decode cc_Mo_push 0 = .ok (.iload_n 1, 1) := by decide +kernel
theorem dd_Mo_push_1 : decode cc_Mo_push 1 = .ok (.invokestatic 81, 3) := by decide +kernel
theorem dd_Mo_push_4 : decode cc_Mo_push 4 = .ok (.ifCond .eq 10, 3) := by decide +kernel
theorem dd_Mo_push_7 : decode cc_Mo_push 7 = .ok (.iload_n 2, 1) := by decide +kernel
theorem dd_Mo_push_8 : decode cc_Mo_push 8 = .ok (.invokestatic 81, 3) := by decide +kernel
theorem dd_Mo_push_11 : decode cc_Mo_push 11 = .ok (.ifCond .ne 5, 3) := by decide +kernel
theorem dd_Mo_push_14 : decode cc_Mo_push 14 = .ok (.iconst (-1), 1) := by decide +kernel
theorem dd_Mo_push_15 : decode cc_Mo_push 15 = .ok (.ireturn, 1) := by decide +kernel
theorem dd_Mo_push_16 : decode cc_Mo_push 16 = .ok (.aload_n 0, 1) := by decide +kernel
theorem dd_Mo_push_17 : decode cc_Mo_push 17 = .ok (.iload_n 1, 1) := by decide +kernel
theorem dd_Mo_push_18 : decode cc_Mo_push 18 = .ok (.invokevirtual 148, 3) := by decide +kernel
theorem dd_Mo_push_21 : decode cc_Mo_push 21 = .ok (.aload_n 0, 1) := by decide +kernel
theorem dd_Mo_push_22 : decode cc_Mo_push 22 = .ok (.iconst 4, 1) := by decide +kernel
theorem dd_Mo_push_23 : decode cc_Mo_push 23 = .ok (.aload_n 0, 1) := by decide +kernel
theorem dd_Mo_push_24 : decode cc_Mo_push 24 = .ok (.getfield 7, 3) := by decide +kernel
theorem dd_Mo_push_27 : decode cc_Mo_push 27 = .ok (.iload_n 1, 1) := by decide +kernel
theorem dd_Mo_push_28 : decode cc_Mo_push 28 = .ok (.iaload, 1) := by decide +kernel
theorem dd_Mo_push_29 : decode cc_Mo_push 29 = .ok (.invokevirtual 75, 3) := by decide +kernel
theorem dd_Mo_push_32 : decode cc_Mo_push 32 = .ok (.aload_n 0, 1) := by decide +kernel
theorem dd_Mo_push_33 : decode cc_Mo_push 33 = .ok (.getfield 13, 3) := by decide +kernel
theorem dd_Mo_push_36 : decode cc_Mo_push 36 = .ok (.iconst 4, 1) := by decide +kernel
theorem dd_Mo_push_37 : decode cc_Mo_push 37 = .ok (.aload_n 0, 1) := by decide +kernel
theorem dd_Mo_push_38 : decode cc_Mo_push 38 = .ok (.getfield 13, 3) := by decide +kernel
theorem dd_Mo_push_41 : decode cc_Mo_push 41 = .ok (.iload_n 1, 1) := by decide +kernel
theorem dd_Mo_push_42 : decode cc_Mo_push 42 = .ok (.iaload, 1) := by decide +kernel
theorem dd_Mo_push_43 : decode cc_Mo_push 43 = .ok (.iastore, 1) := by decide +kernel
theorem dd_Mo_push_44 : decode cc_Mo_push 44 = .ok (.aload_n 0, 1) := by decide +kernel
theorem dd_Mo_push_45 : decode cc_Mo_push 45 = .ok (.getfield 16, 3) := by decide +kernel
theorem dd_Mo_push_48 : decode cc_Mo_push 48 = .ok (.iconst 4, 1) := by decide +kernel
theorem dd_Mo_push_49 : decode cc_Mo_push 49 = .ok (.aload_n 0, 1) := by decide +kernel
theorem dd_Mo_push_50 : decode cc_Mo_push 50 = .ok (.getfield 16, 3) := by decide +kernel
theorem dd_Mo_push_53 : decode cc_Mo_push 53 = .ok (.iload_n 1, 1) := by decide +kernel
theorem dd_Mo_push_54 : decode cc_Mo_push 54 = .ok (.laload, 1) := by decide +kernel
theorem dd_Mo_push_55 : decode cc_Mo_push 55 = .ok (.lastore, 1) := by decide +kernel
theorem dd_Mo_push_56 : decode cc_Mo_push 56 = .ok (.aload_n 0, 1) := by decide +kernel
theorem dd_Mo_push_57 : decode cc_Mo_push 57 = .ok (.getfield 13, 3) := by decide +kernel
theorem dd_Mo_push_60 : decode cc_Mo_push 60 = .ok (.iload_n 1, 1) := by decide +kernel
theorem dd_Mo_push_61 : decode cc_Mo_push 61 = .ok (.iaload, 1) := by decide +kernel
theorem dd_Mo_push_62 : decode cc_Mo_push 62 = .ok (.ifCond .lt 45, 3) := by decide +kernel
theorem dd_Mo_push_65 : decode cc_Mo_push 65 = .ok (.aload_n 0, 1) := by decide +kernel
theorem dd_Mo_push_66 : decode cc_Mo_push 66 = .ok (.getfield 50, 3) := by decide +kernel
theorem dd_Mo_push_69 : decode cc_Mo_push 69 = .ok (.aload_n 0, 1) := by decide +kernel
theorem dd_Mo_push_70 : decode cc_Mo_push 70 = .ok (.getfield 13, 3) := by decide +kernel
theorem dd_Mo_push_73 : decode cc_Mo_push 73 = .ok (.iload_n 1, 1) := by decide +kernel
theorem dd_Mo_push_74 : decode cc_Mo_push 74 = .ok (.iaload, 1) := by decide +kernel
theorem dd_Mo_push_75 : decode cc_Mo_push 75 = .ok (.laload, 1) := by decide +kernel
theorem dd_Mo_push_76 : decode cc_Mo_push 76 = .ok (.ldc2_w 129, 3) := by decide +kernel
theorem dd_Mo_push_79 : decode cc_Mo_push 79 = .ok (.lcmp, 1) := by decide +kernel
theorem dd_Mo_push_80 : decode cc_Mo_push 80 = .ok (.ifCond .ge 27, 3) := by decide +kernel
theorem dd_Mo_push_83 : decode cc_Mo_push 83 = .ok (.aload_n 0, 1) := by decide +kernel
theorem dd_Mo_push_84 : decode cc_Mo_push 84 = .ok (.getfield 16, 3) := by decide +kernel
theorem dd_Mo_push_87 : decode cc_Mo_push 87 = .ok (.iconst 4, 1) := by decide +kernel
theorem dd_Mo_push_88 : decode cc_Mo_push 88 = .ok (.aload_n 0, 1) := by decide +kernel
theorem dd_Mo_push_89 : decode cc_Mo_push 89 = .ok (.getfield 16, 3) := by decide +kernel
theorem dd_Mo_push_92 : decode cc_Mo_push 92 = .ok (.iload_n 1, 1) := by decide +kernel
theorem dd_Mo_push_93 : decode cc_Mo_push 93 = .ok (.laload, 1) := by decide +kernel
theorem dd_Mo_push_94 : decode cc_Mo_push 94 = .ok (.aload_n 0, 1) := by decide +kernel
theorem dd_Mo_push_95 : decode cc_Mo_push 95 = .ok (.getfield 50, 3) := by decide +kernel
theorem dd_Mo_push_98 : decode cc_Mo_push 98 = .ok (.aload_n 0, 1) := by decide +kernel
theorem dd_Mo_push_99 : decode cc_Mo_push 99 = .ok (.getfield 13, 3) := by decide +kernel
theorem dd_Mo_push_102 : decode cc_Mo_push 102 = .ok (.iload_n 1, 1) := by decide +kernel
theorem dd_Mo_push_103 : decode cc_Mo_push 103 = .ok (.iaload, 1) := by decide +kernel
theorem dd_Mo_push_104 : decode cc_Mo_push 104 = .ok (.laload, 1) := by decide +kernel
theorem dd_Mo_push_105 : decode cc_Mo_push 105 = .ok (.ladd, 1) := by decide +kernel
theorem dd_Mo_push_106 : decode cc_Mo_push 106 = .ok (.lastore, 1) := by decide +kernel
theorem dd_Mo_push_107 : decode cc_Mo_push 107 = .ok (.bipush 65, 2) := by decide +kernel
theorem dd_Mo_push_109 : decode cc_Mo_push 109 = .ok (.iload_n 1, 1) := by decide +kernel
theorem dd_Mo_push_110 : decode cc_Mo_push 110 = .ok (.imul, 1) := by decide +kernel
theorem dd_Mo_push_111 : decode cc_Mo_push 111 = .ok (.istore_n 3, 1) := by decide +kernel
theorem dd_Mo_push_112 : decode cc_Mo_push 112 = .ok (.iload_n 3, 1) := by decide +kernel
theorem dd_Mo_push_113 : decode cc_Mo_push 113 = .ok (.bipush 65, 2) := by decide +kernel
theorem dd_Mo_push_115 : decode cc_Mo_push 115 = .ok (.iload_n 1, 1) := by decide +kernel
theorem dd_Mo_push_116 : decode cc_Mo_push 116 = .ok (.imul, 1) := by decide +kernel
theorem dd_Mo_push_117 : decode cc_Mo_push 117 = .ok (.aload_n 0, 1) := by decide +kernel
theorem dd_Mo_push_118 : decode cc_Mo_push 118 = .ok (.getfield 23, 3) := by decide +kernel
theorem dd_Mo_push_121 : decode cc_Mo_push 121 = .ok (.iload_n 1, 1) := by decide +kernel
theorem dd_Mo_push_122 : decode cc_Mo_push 122 = .ok (.iaload, 1) := by decide +kernel
theorem dd_Mo_push_123 : decode cc_Mo_push 123 = .ok (.iadd, 1) := by decide +kernel
theorem dd_Mo_push_124 : decode cc_Mo_push 124 = .ok (.if_icmp .ge 106, 3) := by decide +kernel
theorem dd_Mo_push_127 : decode cc_Mo_push 127 = .ok (.aload_n 0, 1) := by decide +kernel
theorem dd_Mo_push_128 : decode cc_Mo_push 128 = .ok (.getfield 50, 3) := by decide +kernel
theorem dd_Mo_push_131 : decode cc_Mo_push 131 = .ok (.aload_n 0, 1) := by decide +kernel
theorem dd_Mo_push_132 : decode cc_Mo_push 132 = .ok (.getfield 26, 3) := by decide +kernel
theorem dd_Mo_push_135 : decode cc_Mo_push 135 = .ok (.iload_n 3, 1) := by decide +kernel
theorem dd_Mo_push_136 : decode cc_Mo_push 136 = .ok (.iaload, 1) := by decide +kernel
theorem dd_Mo_push_137 : decode cc_Mo_push 137 = .ok (.laload, 1) := by decide +kernel
theorem dd_Mo_push_138 : decode cc_Mo_push 138 = .ok (.ldc2_w 129, 3) := by decide +kernel
theorem dd_Mo_push_141 : decode cc_Mo_push 141 = .ok (.lcmp, 1) := by decide +kernel
theorem dd_Mo_push_142 : decode cc_Mo_push 142 = .ok (.ifCond .ge 82, 3) := by decide +kernel
theorem dd_Mo_push_145 : decode cc_Mo_push 145 = .ok (.aload_n 0, 1) := by decide +kernel
theorem dd_Mo_push_146 : decode cc_Mo_push 146 = .ok (.getfield 50, 3) := by decide +kernel
theorem dd_Mo_push_149 : decode cc_Mo_push 149 = .ok (.aload_n 0, 1) := by decide +kernel
theorem dd_Mo_push_150 : decode cc_Mo_push 150 = .ok (.getfield 29, 3) := by decide +kernel
theorem dd_Mo_push_153 : decode cc_Mo_push 153 = .ok (.iload_n 3, 1) := by decide +kernel
theorem dd_Mo_push_154 : decode cc_Mo_push 154 = .ok (.iaload, 1) := by decide +kernel
theorem dd_Mo_push_155 : decode cc_Mo_push 155 = .ok (.laload, 1) := by decide +kernel
theorem dd_Mo_push_156 : decode cc_Mo_push 156 = .ok (.ldc2_w 129, 3) := by decide +kernel
theorem dd_Mo_push_159 : decode cc_Mo_push 159 = .ok (.lcmp, 1) := by decide +kernel
theorem dd_Mo_push_160 : decode cc_Mo_push 160 = .ok (.ifCond .ge 64, 3) := by decide +kernel
theorem dd_Mo_push_163 : decode cc_Mo_push 163 = .ok (.aload_n 0, 1) := by decide +kernel
theorem dd_Mo_push_164 : decode cc_Mo_push 164 = .ok (.iconst 4, 1) := by decide +kernel
theorem dd_Mo_push_165 : decode cc_Mo_push 165 = .ok (.aload_n 0, 1) := by decide +kernel
theorem dd_Mo_push_166 : decode cc_Mo_push 166 = .ok (.getfield 26, 3) := by decide +kernel
theorem dd_Mo_push_169 : decode cc_Mo_push 169 = .ok (.iload_n 3, 1) := by decide +kernel
theorem dd_Mo_push_170 : decode cc_Mo_push 170 = .ok (.iaload, 1) := by decide +kernel
theorem dd_Mo_push_171 : decode cc_Mo_push 171 = .ok (.aload_n 0, 1) := by decide +kernel
theorem dd_Mo_push_172 : decode cc_Mo_push 172 = .ok (.getfield 29, 3) := by decide +kernel
theorem dd_Mo_push_175 : decode cc_Mo_push 175 = .ok (.iload_n 3, 1) := by decide +kernel
theorem dd_Mo_push_176 : decode cc_Mo_push 176 = .ok (.iaload, 1) := by decide +kernel
theorem dd_Mo_push_177 : decode cc_Mo_push 177 = .ok (.aload_n 0, 1) := by decide +kernel
theorem dd_Mo_push_178 : decode cc_Mo_push 178 = .ok (.getfield 32, 3) := by decide +kernel
theorem dd_Mo_push_181 : decode cc_Mo_push 181 = .ok (.iload_n 3, 1) := by decide +kernel
theorem dd_Mo_push_182 : decode cc_Mo_push 182 = .ok (.iaload, 1) := by decide +kernel
theorem dd_Mo_push_183 : decode cc_Mo_push 183 = .ok (.aload_n 0, 1) := by decide +kernel
theorem dd_Mo_push_184 : decode cc_Mo_push 184 = .ok (.getfield 35, 3) := by decide +kernel
theorem dd_Mo_push_187 : decode cc_Mo_push 187 = .ok (.iload_n 3, 1) := by decide +kernel
theorem dd_Mo_push_188 : decode cc_Mo_push 188 = .ok (.iaload, 1) := by decide +kernel
theorem dd_Mo_push_189 : decode cc_Mo_push 189 = .ok (.aload_n 0, 1) := by decide +kernel
theorem dd_Mo_push_190 : decode cc_Mo_push 190 = .ok (.getfield 38, 3) := by decide +kernel
theorem dd_Mo_push_193 : decode cc_Mo_push 193 = .ok (.iload_n 3, 1) := by decide +kernel
theorem dd_Mo_push_194 : decode cc_Mo_push 194 = .ok (.laload, 1) := by decide +kernel
theorem dd_Mo_push_195 : decode cc_Mo_push 195 = .ok (.aload_n 0, 1) := by decide +kernel
theorem dd_Mo_push_196 : decode cc_Mo_push 196 = .ok (.getfield 50, 3) := by decide +kernel
theorem dd_Mo_push_199 : decode cc_Mo_push 199 = .ok (.aload_n 0, 1) := by decide +kernel
theorem dd_Mo_push_200 : decode cc_Mo_push 200 = .ok (.getfield 29, 3) := by decide +kernel
theorem dd_Mo_push_203 : decode cc_Mo_push 203 = .ok (.iload_n 3, 1) := by decide +kernel
theorem dd_Mo_push_204 : decode cc_Mo_push 204 = .ok (.iaload, 1) := by decide +kernel
theorem dd_Mo_push_205 : decode cc_Mo_push 205 = .ok (.laload, 1) := by decide +kernel
theorem dd_Mo_push_206 : decode cc_Mo_push 206 = .ok (.ladd, 1) := by decide +kernel
theorem dd_Mo_push_207 : decode cc_Mo_push 207 = .ok (.aload_n 0, 1) := by decide +kernel
theorem dd_Mo_push_208 : decode cc_Mo_push 208 = .ok (.getfield 50, 3) := by decide +kernel
theorem dd_Mo_push_211 : decode cc_Mo_push 211 = .ok (.aload_n 0, 1) := by decide +kernel
theorem dd_Mo_push_212 : decode cc_Mo_push 212 = .ok (.getfield 26, 3) := by decide +kernel
theorem dd_Mo_push_215 : decode cc_Mo_push 215 = .ok (.iload_n 3, 1) := by decide +kernel
theorem dd_Mo_push_216 : decode cc_Mo_push 216 = .ok (.iaload, 1) := by decide +kernel
theorem dd_Mo_push_217 : decode cc_Mo_push 217 = .ok (.laload, 1) := by decide +kernel
theorem dd_Mo_push_218 : decode cc_Mo_push 218 = .ok (.lsub, 1) := by decide +kernel
theorem dd_Mo_push_219 : decode cc_Mo_push 219 = .ok (.invokevirtual 99, 3) := by decide +kernel
theorem dd_Mo_push_222 : decode cc_Mo_push 222 = .ok (.istore 4, 2) := by decide +kernel
theorem dd_Mo_push_224 : decode cc_Mo_push 224 = .ok (.iinc 3 1, 3) := by decide +kernel
theorem dd_Mo_push_227 : decode cc_Mo_push 227 = .ok (.goto (-115), 3) := by decide +kernel
theorem dd_Mo_push_230 : decode cc_Mo_push 230 = .ok (.iconst 0, 1) := by decide +kernel
theorem dd_Mo_push_231 : decode cc_Mo_push 231 = .ok (.istore_n 3, 1) := by decide +kernel
theorem dd_Mo_push_232 : decode cc_Mo_push 232 = .ok (.iload_n 3, 1) := by decide +kernel
theorem dd_Mo_push_233 : decode cc_Mo_push 233 = .ok (.aload_n 0, 1) := by decide +kernel
theorem dd_Mo_push_234 : decode cc_Mo_push 234 = .ok (.getfield 7, 3) := by decide +kernel
theorem dd_Mo_push_237 : decode cc_Mo_push 237 = .ok (.iload_n 1, 1) := by decide +kernel
theorem dd_Mo_push_238 : decode cc_Mo_push 238 = .ok (.iaload, 1) := by decide +kernel
theorem dd_Mo_push_239 : decode cc_Mo_push 239 = .ok (.if_icmp .ge 53, 3) := by decide +kernel
theorem dd_Mo_push_242 : decode cc_Mo_push 242 = .ok (.aload_n 0, 1) := by decide +kernel
theorem dd_Mo_push_243 : decode cc_Mo_push 243 = .ok (.getfield 20, 3) := by decide +kernel
theorem dd_Mo_push_246 : decode cc_Mo_push 246 = .ok (.bipush 16, 2) := by decide +kernel
theorem dd_Mo_push_248 : decode cc_Mo_push 248 = .ok (.iload_n 1, 1) := by decide +kernel
theorem dd_Mo_push_249 : decode cc_Mo_push 249 = .ok (.imul, 1) := by decide +kernel
theorem dd_Mo_push_250 : decode cc_Mo_push 250 = .ok (.iload_n 3, 1) := by decide +kernel
theorem dd_Mo_push_251 : decode cc_Mo_push 251 = .ok (.iadd, 1) := by decide +kernel
theorem dd_Mo_push_252 : decode cc_Mo_push 252 = .ok (.laload, 1) := by decide +kernel
theorem dd_Mo_push_253 : decode cc_Mo_push 253 = .ok (.lstore 4, 2) := by decide +kernel
theorem dd_Mo_push_255 : decode cc_Mo_push 255 = .ok (.aload_n 0, 1) := by decide +kernel
theorem dd_Mo_push_256 : decode cc_Mo_push 256 = .ok (.getfield 20, 3) := by decide +kernel
theorem dd_Mo_push_259 : decode cc_Mo_push 259 = .ok (.bipush 64, 2) := by decide +kernel
theorem dd_Mo_push_261 : decode cc_Mo_push 261 = .ok (.iload_n 3, 1) := by decide +kernel
theorem dd_Mo_push_262 : decode cc_Mo_push 262 = .ok (.iadd, 1) := by decide +kernel
theorem dd_Mo_push_263 : decode cc_Mo_push 263 = .ok (.lload 4, 2) := by decide +kernel
theorem dd_Mo_push_265 : decode cc_Mo_push 265 = .ok (.lconst 0, 1) := by decide +kernel
theorem dd_Mo_push_266 : decode cc_Mo_push 266 = .ok (.lcmp, 1) := by decide +kernel
theorem dd_Mo_push_267 : decode cc_Mo_push 267 = .ok (.ifCond .ge 9, 3) := by decide +kernel
theorem dd_Mo_push_270 : decode cc_Mo_push 270 = .ok (.ldc2_w 79, 3) := by decide +kernel
theorem dd_Mo_push_273 : decode cc_Mo_push 273 = .ok (.goto 12, 3) := by decide +kernel
theorem dd_Mo_push_276 : decode cc_Mo_push 276 = .ok (.lload 4, 2) := by decide +kernel
theorem dd_Mo_push_278 : decode cc_Mo_push 278 = .ok (.aload_n 0, 1) := by decide +kernel
theorem dd_Mo_push_279 : decode cc_Mo_push 279 = .ok (.getfield 50, 3) := by decide +kernel
theorem dd_Mo_push_282 : decode cc_Mo_push 282 = .ok (.iload_n 3, 1) := by decide +kernel
theorem dd_Mo_push_283 : decode cc_Mo_push 283 = .ok (.laload, 1) := by decide +kernel
theorem dd_Mo_push_284 : decode cc_Mo_push 284 = .ok (.lsub, 1) := by decide +kernel
theorem dd_Mo_push_285 : decode cc_Mo_push 285 = .ok (.lastore, 1) := by decide +kernel
theorem dd_Mo_push_286 : decode cc_Mo_push 286 = .ok (.iinc 3 1, 3) := by decide +kernel
theorem dd_Mo_push_289 : decode cc_Mo_push 289 = .ok (.goto (-57), 3) := by decide +kernel
theorem dd_Mo_push_292 : decode cc_Mo_push 292 = .ok (.aload_n 0, 1) := by decide +kernel
theorem dd_Mo_push_293 : decode cc_Mo_push 293 = .ok (.iload_n 2, 1) := by decide +kernel
theorem dd_Mo_push_294 : decode cc_Mo_push 294 = .ok (.invokevirtual 126, 3) := by decide +kernel
theorem dd_Mo_push_297 : decode cc_Mo_push 297 = .ok (.ifCond .eq 12, 3) := by decide +kernel
theorem dd_Mo_push_300 : decode cc_Mo_push 300 = .ok (.aload_n 0, 1) := by decide +kernel
theorem dd_Mo_push_301 : decode cc_Mo_push 301 = .ok (.getfield 23, 3) := by decide +kernel
theorem dd_Mo_push_304 : decode cc_Mo_push 304 = .ok (.iload_n 2, 1) := by decide +kernel
theorem dd_Mo_push_305 : decode cc_Mo_push 305 = .ok (.iaload, 1) := by decide +kernel
theorem dd_Mo_push_306 : decode cc_Mo_push 306 = .ok (.goto 5, 3) := by decide +kernel
theorem dd_Mo_push_309 : decode cc_Mo_push 309 = .ok (.bipush (-2), 2) := by decide +kernel
theorem dd_Mo_push_311 : decode cc_Mo_push 311 = .ok (.ireturn, 1) := by decide +kernel
/-! WHAT LIES ONWARD, as the reference keeps it: the weight, and the fewest arcs -/
def mn_x (x : Nat × Nat) : ls_A := (x.1 % 16, x.1 / 1024, x.2 * 4096 + 1)
def mn_v (a : am_T) : ls_V := fun s => if s < am_n a then (am_en a s).map (fun e => e * 4096) else none
def mn_ph (c : Nat) : Nat := c / 32 * 4096 + c % 32
theorem mn_mono {c d : Nat} (h : c ≤ d) : mn_ph c ≤ mn_ph d := by
  unfold mn_ph
  omega
theorem mn_ad {d w : Nat} (h : d % 32 < 31) : mn_ph (d + (w * 32 + 1)) = mn_ph d + (w * 4096 + 1) := by
  unfold mn_ph
  omega
theorem mn_v0 (a : am_T) (q : Nat) : (on_v a (am_n a) q).map mn_ph = mn_v a q := by
  unfold on_v mn_v
  by_cases hq : q < am_n a
  · rw [if_pos hq, if_pos hq]
    cases am_en a q with
    | none => simp only [Option.map_none]
    | some e =>
      have h1 : mn_ph (e * 32) = e * 4096 := by
        unfold mn_ph
        omega
      simp only [Option.map_some, h1]
  · rw [if_neg hq, if_neg hq]
    rfl
theorem mn_D (a : am_T) : ∀ k, k ≤ 16 → (∀ q c, ls_D ((am_ar a).map on_x) (on_v a (am_n a)) k q = some c → c % 32 ≤ k) ∧ ∀ Y, ls_vle Y (mn_v a) → ls_cl ((am_ar a).map mn_x) Y → ∀ q, ls_le (Y q) ((ls_D ((am_ar a).map on_x) (on_v a (am_n a)) k q).map mn_ph)
  | 0, _ => by
    refine ⟨fun q c h => ?_, fun Y hY _ q => ?_⟩
    · have h : on_v a (am_n a) q = some c := h
      unfold on_v at h
      split at h
      · cases he : am_en a q with
        | none => rw [he] at h; cases h
        | some e =>
          rw [he] at h
          have h : some (e * 32) = some c := h
          cases h
          omega
      · cases h
    · show ls_le (Y q) ((on_v a (am_n a) q).map mn_ph)
      rw [mn_v0]
      exact hY q
  | k + 1, hk => by
    obtain ⟨ih1, ih2⟩ := mn_D a k (by omega)
    refine ⟨fun q c h => ?_, fun Y hY hc q => ?_⟩
    · have h : ls_J ((am_ar a).map on_x) (ls_D ((am_ar a).map on_x) (on_v a (am_n a)) k) q = some c := h
      rcases ls_J_or ((am_ar a).map on_x) (ls_D ((am_ar a).map on_x) (on_v a (am_n a)) k) q with h1 | ⟨e, he, -, h1⟩
      · rw [h1] at h
        have := ih1 q c h
        omega
      · rw [h1] at h
        obtain ⟨d, hd, hdc⟩ := am_ad_some h
        have := ih1 _ d hd
        obtain ⟨x, -, rfl⟩ := List.mem_map.mp he
        have hdc : d + (x.2 * 32 + 1) = c := hdc
        omega
    · show ls_le (Y q) ((ls_J ((am_ar a).map on_x) (ls_D ((am_ar a).map on_x) (on_v a (am_n a)) k) q).map mn_ph)
      rcases ls_J_or ((am_ar a).map on_x) (ls_D ((am_ar a).map on_x) (on_v a (am_n a)) k) q with h1 | ⟨e, he, hq, h1⟩
      · rw [h1]
        exact ih2 Y hY hc q
      · rw [h1]
        obtain ⟨x, hx, rfl⟩ := List.mem_map.mp he
        have hq : x.1 / 1024 = q := hq
        show ls_le (Y q) ((ls_ad (ls_D ((am_ar a).map on_x) (on_v a (am_n a)) k (x.1 % 16)) (x.2 * 32 + 1)).map mn_ph)
        have h2 : ls_le (Y (x.1 / 1024)) (ls_ad (Y (x.1 % 16)) (x.2 * 4096 + 1)) := hc (mn_x x) (List.mem_map_of_mem hx)
        have h3 := ls_ad_mono (x.2 * 4096 + 1) (ih2 Y hY hc (x.1 % 16))
        rw [hq] at h2
        refine ls_tr h2 (ls_tr h3 ?_)
        cases hd : ls_D ((am_ar a).map on_x) (on_v a (am_n a)) k (x.1 % 16) with
        | none => exact ls_rf _
        | some d =>
          show ls_le (some (mn_ph d + (x.2 * 4096 + 1))) (some (mn_ph (d + (x.2 * 32 + 1))))
          rw [mn_ad (by have := ih1 _ d hd; omega)]
          exact ls_rf _
theorem mn_on {a : am_T} (h : am_ok a) : on_of a = ls_D ((am_ar a).map on_x) (on_v a (am_n a)) 16 := by
  have hE := on_E h.2.2.1
  have hE16 : ∀ e ∈ (am_ar a).map on_x, e.1 < 16 ∧ e.2.1 < 16 := fun e he => by
    have := hE e he
    have := h.1.1
    omega
  exact ls_one (on_of_fix h) ⟨ls_D_le0 _ _ 16, ls_D_cl hE16 (by decide), fun Y h1 h2 => ls_D_ge h1 h2 16⟩
theorem mn_tr {a : am_T} (h : am_ok a) : ls_it ((am_ar a).map mn_x) 40 (mn_v a) = fun q => (on_of a q).map mn_ph := by
  have hE : ∀ e ∈ (am_ar a).map mn_x, e.1 < am_n a ∧ e.2.1 < am_n a := by
    intro e he
    obtain ⟨x, hx, rfl⟩ := List.mem_map.mp he
    exact (h.2.2.1 x hx).symm
  have hf := on_of_fix h
  refine ls_one (ls_it_fix hE (by have := h.1.1; omega)) ⟨fun q => ?_, fun e he => ?_, fun Y h1 h2 q => ?_⟩
  · intro y hy
    rw [← mn_v0] at hy
    cases hv : on_v a (am_n a) q with
    | none => rw [hv] at hy; cases hy
    | some c0 =>
      rw [hv] at hy
      have hy : some (mn_ph c0) = some y := hy
      cases hy
      obtain ⟨c, hc, hl⟩ := hf.1 q c0 hv
      exact ⟨mn_ph c, by show (on_of a q).map mn_ph = _; rw [hc]; rfl, mn_mono hl⟩
  · obtain ⟨x, hx, rfl⟩ := List.mem_map.mp he
    intro y hy
    have hy : ls_ad ((on_of a (x.1 % 16)).map mn_ph) (x.2 * 4096 + 1) = some y := hy
    cases hd : on_of a (x.1 % 16) with
    | none => rw [hd] at hy; cases hy
    | some d =>
      rw [hd] at hy
      have hy : some (mn_ph d + (x.2 * 4096 + 1)) = some y := hy
      cases hy
      have h1 : ls_le (on_of a (x.1 / 1024)) (ls_ad (on_of a (x.1 % 16)) (x.2 * 32 + 1)) := hf.2.1 (on_x x) (List.mem_map_of_mem hx)
      obtain ⟨c, hc, hl⟩ := h1 (d + (x.2 * 32 + 1)) (by rw [hd]; rfl)
      refine ⟨mn_ph c, by show (on_of a (x.1 / 1024)).map mn_ph = _; rw [hc]; rfl, ?_⟩
      rw [← mn_ad (by have := on_15 h hf hd; omega)]
      exact mn_mono hl
  · show ls_le (Y q) ((on_of a q).map mn_ph)
    rw [mn_on h]
    exact (mn_D a 16 (Nat.le_refl _)).2 Y h1 h2 q
def mn_F (o : Option Nat) : Nat := match o with
  | none => 0
  | some c => c % 4096
def mn_in (F : mo_F) (L : mo_L) (u : ls_V) : Prop := ∀ s, s < 16 → L 57 s = mf ((u s).map (fun c => c / 4096)) ∧ F 58 s = nI (mn_F (u s))
def mn_b (k : Nat) (u : ls_V) : Prop := ∀ s c, u s = some c → c / 4096 < (k + 1) * 1000000001 ∧ c % 4096 ≤ k
theorem mn_bm {k k2 : Nat} {u : ls_V} (h : mn_b k u) (hk : k ≤ k2) : mn_b k2 u := fun s c hc => by
  have := h s c hc
  exact ⟨Nat.lt_of_lt_of_le this.1 (Nat.mul_le_mul_right _ (by omega)), by omega⟩
theorem mn_rx {k : Nat} {u : ls_V} {x : Nat × Nat} (h : mn_b k u) (hx : x.2 < 1000000001) (hk : k < 4000) : mn_b (k + 1) (ls_rx u (mn_x x)) := by
  intro s c hc
  unfold ls_rx at hc
  by_cases h1 : ls_lt (ls_ad (u (mn_x x).1) (mn_x x).2.2) (u (mn_x x).2.1) = true
  · rw [if_pos h1] at hc
    by_cases hs : s = (mn_x x).2.1
    · rw [hs, gm_us] at hc
      obtain ⟨d, hd, hdc⟩ := am_ad_some hc
      have := h _ _ hd
      have hdc : d + (x.2 * 4096 + 1) = c := hdc
      omega
    · rw [gm_un hs] at hc
      exact mn_bm h (by omega) s c hc
  · rw [if_neg h1] at hc
    exact mn_bm h (by omega) s c hc
theorem mn_up {F F2 : mo_F} {L L2 : mo_L} {u : ls_V} {t c W n : Nat} (hL : L2 = va_up L 57 (vp_updL (L 57) t (lN W))) (hF : F2 = va_up F 58 (upd (F 58) t (nI n))) (hW : W = c / 4096) (hn : n = c % 4096) (h : mn_in F L u) : mn_in F2 L2 (va_up u t (some c)) := by
  intro s hs
  rw [hL, gm_us, hF, gm_us]
  by_cases hst : s = t
  · subst hst
    rw [pk_uLs, pk_us, gm_us, hW, hn]
    exact ⟨rfl, rfl⟩
  · rw [pk_uLn hst, pk_un hst, gm_un hst]
    exact h s hs
/-- what is found onward -/
def mn_ok (F : mo_F) (L : mo_L) (a : am_T) : Prop := ∀ q, q < 16 → L 57 q = mf ((on_of a q).map (fun c => c / 32)) ∧ ∀ c, on_of a q = some c → F 58 q = nI (c % 32) ∧ c / 32 < 2570000000000
theorem mn_ok_k {F F2 : mo_F} {L L2 : mo_L} {a : am_T} (h1 : F2 58 = F 58) (h2 : L2 57 = L 57) (h : mn_ok F L a) : mn_ok F2 L2 a := by
  unfold mn_ok at h ⊢
  rw [h1, h2]
  exact h
theorem mn_fin {F : mo_F} {L : mo_L} {a : am_T} (h : am_ok a) (hi : mn_in F L (ls_it ((am_ar a).map mn_x) 40 (mn_v a))) (hb : mn_b 2560 (ls_it ((am_ar a).map mn_x) 40 (mn_v a))) : mn_ok F L a := by
  rw [mn_tr h] at hi hb
  intro q hq
  have h1 := hi q hq
  have hb1 := hb q
  cases hc : on_of a q with
  | none =>
    simp only [hc] at h1
    exact ⟨h1.1, fun c e => by cases e⟩
  | some c =>
    simp only [hc] at h1 hb1
    have h15 := on_15 h (on_of_fix h) hc
    have e1 : mn_ph c / 4096 = c / 32 := by unfold mn_ph; omega
    have e2 : mn_ph c % 4096 = c % 32 := by unfold mn_ph; omega
    have hb2 := hb1 (mn_ph c) rfl
    rw [e1] at hb2
    refine ⟨?_, fun c2 e => ?_⟩
    · rw [h1.1]
      show lN (mn_ph c / 4096) = lN (c / 32)
      rw [e1]
    · cases e
      refine ⟨?_, by omega⟩
      rw [h1.2]
      show nI (mn_ph c % 4096) = _
      rw [e2]
theorem mn_vb {a : am_T} (h : am_ok a) : mn_b 0 (mn_v a) := by
  intro s c hc
  unfold mn_v at hc
  split at hc
  · cases he : am_en a s with
    | none => rw [he] at hc; cases hc
    | some e =>
      rw [he] at hc
      have hc : some (e * 4096) = some c := hc
      cases hc
      have := h.1.2.2.2.1 s e he
      omega
  · cases hc
set_option maxRecDepth 100000 in
set_option maxHeartbeats 4000000 in
theorem ct_Mo_findOnward (l : Launch) (D : va_G) (dA : Nat → ClassId) (ad : Nat → Nat) (h : Nat → va_E) (F : mo_F) (L : mo_L) (S : Nat → Int32) {ia : Nat} {A : am_T} (hia : ia < 4) (hA : mo_is F L ia A) (hok : am_ok A) : gx_Ct l D dA yy_Mo_findOnward cc_Mo_findOnward 8 none 0 0 0 [.ref (ad 43), .int (nI ia)] (gx_w ad (mo_h dA ad h F L S)) (fun v w => v = none ∧ ∃ F2 L2, w = (gx_w ad (mo_h dA ad h F2 L2 S)) ∧ (∀ k, k ≠ 58 → F2 k = F k) ∧ (∀ k, k ≠ 57 → L2 k = L k) ∧ mn_ok F2 L2 A) := by
  refine gx_of (by decide) (Nat.le_of_ble_eq_true rfl) (fun K C _ _ => ?_)
  have hla := hA.2.2.2.2.2
  have hn16 := hok.1.1
  have rounds : ∀ m r0 ur F1 L1, r0 + m = 40 → ur = ls_it ((am_ar A).map mn_x) r0 (mn_v A) → mn_in F1 L1 ur → mn_b (r0 * 64) ur → (∀ k, k ≠ 58 → F1 k = F k) → (∀ k, k ≠ 57 → L1 k = L k) → gx_G K D 8 0 0 82 [(2, .int (nI r0)), (0, .ref (ad 43)), (1, .int (nI ia))] [] (gx_w ad (mo_h dA ad h F1 L1 S)) (gx_Z K D dA 0 0 (fun v w => v = none ∧ ∃ F2 L2, w = (gx_w ad (mo_h dA ad h F2 L2 S)) ∧ (∀ k, k ≠ 58 → F2 k = F k) ∧ (∀ k, k ≠ 57 → L2 k = L k) ∧ mn_ok F2 L2 A)) := by
    intro m
    induction m with
    | zero =>
      intro r0 ur F1 L1 hr0 hvr hin hb1 hFk hLk
      refine gx_iload_n C 0 dd_Mo_findOnward_82 (kk := ?_)
      refine gx_bipush (v := nI 40) C dd_Mo_findOnward_83 (kk := ?_)
      refine gx_icmp_ge C 252 dd_Mo_findOnward_85 (fun h85 => ?_) (fun h85 => absurd (nI_le (a := 40) (b := r0) (by omega) (by omega)) h85)
      refine gx_vret C dd_Mo_findOnward_252 ?_
      rw [show r0 = 40 by omega] at hvr hb1
      subst hvr
      exact ⟨rfl, F1, L1, rfl, hFk, hLk, mn_fin hok hin hb1⟩
    | succ m ih =>
      intro r0 ur F1 L1 hr0 hvr hin hb1 hFk hLk
      refine gx_iload_n C 0 dd_Mo_findOnward_82 (kk := ?_)
      refine gx_bipush (v := nI 40) C dd_Mo_findOnward_83 (kk := ?_)
      refine gx_icmp_ge C 252 dd_Mo_findOnward_85 (fun h85 => absurd h85 (nI_ge (by omega) (by omega))) (fun h85 => ?_)
      refine gx_bipush (v := nI 65) C dd_Mo_findOnward_88 (kk := ?_)
      refine gx_iload_n C 2 dd_Mo_findOnward_90 (kk := ?_)
      refine gx_imul C dd_Mo_findOnward_91 (kk := ?_)
      refine gx_topi _ (pk_mul _ _) ?_
      refine gx_istore_n C _ dd_Mo_findOnward_92 (kk := ?_)
      have inner : ∀ m j u1 F1 L1, j + m = (am_ar A).length → u1 = ls_rd (((am_ar A).take j).map mn_x) ur → mn_in F1 L1 u1 → mn_b (r0 * 64 + j) u1 → (∀ k, k ≠ 58 → F1 k = F k) → (∀ k, k ≠ 57 → L1 k = L k) → gx_G K D 8 0 0 93 [(3, .int (nI (65 * ia + j))), (2, .int (nI r0)), (0, .ref (ad 43)), (1, .int (nI ia))] [] (gx_w ad (mo_h dA ad h F1 L1 S)) (gx_Z K D dA 0 0 (fun v w => v = none ∧ ∃ F2 L2, w = (gx_w ad (mo_h dA ad h F2 L2 S)) ∧ (∀ k, k ≠ 58 → F2 k = F k) ∧ (∀ k, k ≠ 57 → L2 k = L k) ∧ mn_ok F2 L2 A)) := by
        intro m
        induction m with
        | zero =>
          intro j u1 F1 L1 hj hv1 hin hb1 hFk hLk
          refine gx_iload_n C 0 dd_Mo_findOnward_93 (kk := ?_)
          refine gx_bipush (v := nI 65) C dd_Mo_findOnward_94 (kk := ?_)
          refine gx_iload_n C 3 dd_Mo_findOnward_96 (kk := ?_)
          refine gx_imul C dd_Mo_findOnward_97 (kk := ?_)
          refine gx_topi _ (pk_mul _ _) ?_
          refine gx_aload_n C 2 dd_Mo_findOnward_98 (kk := ?_)
          refine mo_get C fd_Mo_23 dd_Mo_findOnward_99 (kk := ?_)
          refine gx_iload_n C 3 dd_Mo_findOnward_102 (kk := ?_)
          refine mo_l48 C dd_Mo_findOnward_103 (by omega) (kk := ?_)
          refine gx_topi _ (mo_is_k (fun k hk => hFk k (by omega)) (fun k hk => hLk k (by omega)) hA).2.2.2.1 ?_
          refine gx_iadd C dd_Mo_findOnward_104 (kk := ?_)
          refine gx_topi _ (nI_add _ _) ?_
          refine gx_icmp_ge C 246 dd_Mo_findOnward_105 (fun h105 => ?_) (fun h105 => absurd (nI_le (a := 65 * ia + (am_ar A).length) (b := 65 * ia + j) (by omega) (by omega)) h105)
          refine gx_iinc C 1 (nI (r0 + 1)) _ dd_Mo_findOnward_246 (nI_1 _) (kk := ?_)
          refine gx_goto C 82 dd_Mo_findOnward_249 (kk := ?_)
          refine gx_loc [0, 2, 3] ?_
          rw [show j = (am_ar A).length by omega, List.take_length] at hv1
          exact ih (r0 + 1) u1 F1 L1 (by omega) (by rw [hv1, hvr]; rfl) hin (mn_bm hb1 (by omega)) hFk hLk
        | succ m ihj =>
          intro j u1 F1 L1 hj hv1 hin hb1 hFk hLk
          obtain ⟨x, hx⟩ : ∃ x, (am_ar A)[j]? = some x := ⟨_, List.getElem?_eq_getElem (by omega)⟩
          have hxa := (mo_is_k (fun k hk => hFk k (by omega)) (fun k hk => hLk k (by omega)) hA).2.2.2.2.1 j x hx
          have hxb := hok.1.2.2.1 x (List.mem_of_getElem? hx)
          refine gx_iload_n C 0 dd_Mo_findOnward_93 (kk := ?_)
          refine gx_bipush (v := nI 65) C dd_Mo_findOnward_94 (kk := ?_)
          refine gx_iload_n C 3 dd_Mo_findOnward_96 (kk := ?_)
          refine gx_imul C dd_Mo_findOnward_97 (kk := ?_)
          refine gx_topi _ (pk_mul _ _) ?_
          refine gx_aload_n C 2 dd_Mo_findOnward_98 (kk := ?_)
          refine mo_get C fd_Mo_23 dd_Mo_findOnward_99 (kk := ?_)
          refine gx_iload_n C 3 dd_Mo_findOnward_102 (kk := ?_)
          refine mo_l48 C dd_Mo_findOnward_103 (by omega) (kk := ?_)
          refine gx_topi _ (mo_is_k (fun k hk => hFk k (by omega)) (fun k hk => hLk k (by omega)) hA).2.2.2.1 ?_
          refine gx_iadd C dd_Mo_findOnward_104 (kk := ?_)
          refine gx_topi _ (nI_add _ _) ?_
          refine gx_icmp_ge C 246 dd_Mo_findOnward_105 (fun h105 => absurd h105 (nI_ge (by omega) (by omega))) (fun h105 => ?_)
          have hto0 := hin (x.1 % 16) (by omega)
          rcases hto : u1 (x.1 % 16) with _ | d
          · rw [hto] at hto0
            refine gx_aload_n C 2 dd_Mo_findOnward_108 (kk := ?_)
            refine mo_get C fd_Mo_50 dd_Mo_findOnward_109 (kk := ?_)
            refine gx_aload_n C 2 dd_Mo_findOnward_112 (kk := ?_)
            refine mo_get C fd_Mo_29 dd_Mo_findOnward_113 (kk := ?_)
            refine gx_iload_n C 0 dd_Mo_findOnward_116 (kk := ?_)
            refine mo_l50 C dd_Mo_findOnward_117 (by omega) (kk := ?_)
            refine gx_topi _ hxa.2.1 ?_
            refine mo_l57 C dd_Mo_findOnward_118 (by omega) (kk := ?_)
            refine gx_topl (4000000000000000000) hto0.1 ?_
            refine gx_ldc2 C dd_Mo_findOnward_119 kc_Mo_129 (kk := ?_)
            refine gx_lcmp C dd_Mo_findOnward_122 (kk := ?_)
            refine gx_if_ge C 147 dd_Mo_findOnward_123 (fun h123 => ?_) (fun h123 => absurd (by decide) h123)
            refine gx_ldc2 C dd_Mo_findOnward_147 kc_Mo_129 (kk := ?_)
            refine gx_lstore C _ dd_Mo_findOnward_150 (kk := ?_)
            refine gx_aload_n C 3 dd_Mo_findOnward_152 (kk := ?_)
            refine mo_get C fd_Mo_53 dd_Mo_findOnward_153 (kk := ?_)
            refine gx_aload_n C 3 dd_Mo_findOnward_156 (kk := ?_)
            refine mo_get C fd_Mo_29 dd_Mo_findOnward_157 (kk := ?_)
            refine gx_iload_n C 1 dd_Mo_findOnward_160 (kk := ?_)
            refine mo_l50 C dd_Mo_findOnward_161 (by omega) (kk := ?_)
            refine gx_topi _ hxa.2.1 ?_
            refine mo_l58 C dd_Mo_findOnward_162 (by omega) (kk := ?_)
            refine gx_topi (nI 0) hto0.2 ?_
            refine gx_iconst (v := nI 1) C dd_Mo_findOnward_163 (kk := ?_)
            refine gx_iadd C dd_Mo_findOnward_164 (kk := ?_)
            refine gx_topi _ (nI_add _ _) ?_
            refine gx_istore C _ dd_Mo_findOnward_165 (kk := ?_)
            refine gx_aload_n C 4 dd_Mo_findOnward_167 (kk := ?_)
            refine mo_get C fd_Mo_26 dd_Mo_findOnward_168 (kk := ?_)
            refine gx_iload_n C 2 dd_Mo_findOnward_171 (kk := ?_)
            refine mo_l49 C dd_Mo_findOnward_172 (by omega) (kk := ?_)
            refine gx_topi _ hxa.1 ?_
            refine gx_istore C _ dd_Mo_findOnward_173 (kk := ?_)
            have hq0 := hin (x.1 / 1024) (by omega)
            have hq0f : mf ((u1 (x.1 / 1024)).map (fun c => c / 4096)) = mf ((u1 (x.1 / 1024)).map (fun c => c / 4096)) := rfl
            have hq0b : ∀ y, (u1 (x.1 / 1024)).map (fun c => c / 4096) = some y → y < 4000000000000000000 := fun y hy => by
              cases hz : u1 (x.1 / 1024) with
              | none => rw [hz] at hy; cases hy
              | some c =>
                rw [hz] at hy
                have hy : some (c / 4096) = some y := hy
                cases hy
                have := hb1 _ _ hz
                omega
            · refine gx_lload C 2 dd_Mo_findOnward_175 (kk := ?_)
              refine gx_aload_n C 5 dd_Mo_findOnward_177 (kk := ?_)
              refine mo_get C fd_Mo_50 dd_Mo_findOnward_178 (kk := ?_)
              refine gx_iload C 0 dd_Mo_findOnward_181 (kk := ?_)
              refine mo_l57 C dd_Mo_findOnward_183 (by omega) (kk := ?_)
              refine gx_topl _ hq0.1 ?_
              refine gx_lcmp C dd_Mo_findOnward_184 (kk := ?_)
              refine gx_if_lt C 222 dd_Mo_findOnward_185 (fun h185 => absurd (lc_lt.mp h185) (Int64.not_lt.mpr (hq0f ▸ mf_le hq0b))) (fun h185 => ?_)
              refine gx_lload C 2 dd_Mo_findOnward_188 (kk := ?_)
              refine gx_ldc2 C dd_Mo_findOnward_190 kc_Mo_129 (kk := ?_)
              refine gx_lcmp C dd_Mo_findOnward_193 (kk := ?_)
              refine gx_if_ge C 240 dd_Mo_findOnward_194 (fun h194 => ?_) (fun h194 => absurd (by decide) h194)
              refine gx_iinc C 3 (nI (65 * ia + (j + 1))) _ dd_Mo_findOnward_240 (nI_1 _) (kk := ?_)
              refine gx_goto C 93 dd_Mo_findOnward_243 (kk := ?_)
              refine gx_loc [0, 4, 5, 6] ?_
              have hrx : ls_rx u1 (mn_x x) = u1 := ls_rx_n (by show ¬ ls_lt (ls_ad (u1 (x.1 % 16)) (x.2 * 4096 + 1)) (u1 (x.1 / 1024)) = true; rw [hto]; simp [ls_ad, ls_lt])
              exact ihj (j + 1) u1 F1 L1 (by omega) (hrx.symm.trans (by rw [hv1, List.take_add_one, hx, Option.toList_some, List.map_append, List.map_singleton, ls_rd_s])) hin (mn_bm hb1 (by omega)) hFk hLk
          · rw [hto] at hto0
            have hdb := hb1 _ _ hto
            refine gx_aload_n C 2 dd_Mo_findOnward_108 (kk := ?_)
            refine mo_get C fd_Mo_50 dd_Mo_findOnward_109 (kk := ?_)
            refine gx_aload_n C 2 dd_Mo_findOnward_112 (kk := ?_)
            refine mo_get C fd_Mo_29 dd_Mo_findOnward_113 (kk := ?_)
            refine gx_iload_n C 0 dd_Mo_findOnward_116 (kk := ?_)
            refine mo_l50 C dd_Mo_findOnward_117 (by omega) (kk := ?_)
            refine gx_topi _ hxa.2.1 ?_
            refine mo_l57 C dd_Mo_findOnward_118 (by omega) (kk := ?_)
            refine gx_topl (lN (d / 4096)) hto0.1 ?_
            refine gx_ldc2 C dd_Mo_findOnward_119 kc_Mo_129 (kk := ?_)
            refine gx_lcmp C dd_Mo_findOnward_122 (kk := ?_)
            refine gx_if_ge C 147 dd_Mo_findOnward_123 (fun h123 => absurd (lc_ge.mp h123) (mf_fl (by omega))) (fun h123 => ?_)
            refine gx_aload_n C 2 dd_Mo_findOnward_126 (kk := ?_)
            refine mo_get C fd_Mo_50 dd_Mo_findOnward_127 (kk := ?_)
            refine gx_aload_n C 2 dd_Mo_findOnward_130 (kk := ?_)
            refine mo_get C fd_Mo_29 dd_Mo_findOnward_131 (kk := ?_)
            refine gx_iload_n C 0 dd_Mo_findOnward_134 (kk := ?_)
            refine mo_l50 C dd_Mo_findOnward_135 (by omega) (kk := ?_)
            refine gx_topi _ hxa.2.1 ?_
            refine mo_l57 C dd_Mo_findOnward_136 (by omega) (kk := ?_)
            refine gx_topl (lN (d / 4096)) hto0.1 ?_
            refine gx_aload_n C 2 dd_Mo_findOnward_137 (kk := ?_)
            refine mo_get C fd_Mo_38 dd_Mo_findOnward_138 (kk := ?_)
            refine gx_iload_n C 0 dd_Mo_findOnward_141 (kk := ?_)
            refine mo_l53 C dd_Mo_findOnward_142 (by omega) (kk := ?_)
            refine gx_topl _ hxa.2.2.2.2 ?_
            refine gx_ladd C dd_Mo_findOnward_143 (kk := ?_)
            refine gx_topl _ (lN_add _ _) ?_
            refine gx_goto C 150 dd_Mo_findOnward_144 (kk := ?_)
            refine gx_lstore C _ dd_Mo_findOnward_150 (kk := ?_)
            refine gx_aload_n C 3 dd_Mo_findOnward_152 (kk := ?_)
            refine mo_get C fd_Mo_53 dd_Mo_findOnward_153 (kk := ?_)
            refine gx_aload_n C 3 dd_Mo_findOnward_156 (kk := ?_)
            refine mo_get C fd_Mo_29 dd_Mo_findOnward_157 (kk := ?_)
            refine gx_iload_n C 1 dd_Mo_findOnward_160 (kk := ?_)
            refine mo_l50 C dd_Mo_findOnward_161 (by omega) (kk := ?_)
            refine gx_topi _ hxa.2.1 ?_
            refine mo_l58 C dd_Mo_findOnward_162 (by omega) (kk := ?_)
            refine gx_topi (nI (d % 4096)) hto0.2 ?_
            refine gx_iconst (v := nI 1) C dd_Mo_findOnward_163 (kk := ?_)
            refine gx_iadd C dd_Mo_findOnward_164 (kk := ?_)
            refine gx_topi _ (nI_add _ _) ?_
            refine gx_istore C _ dd_Mo_findOnward_165 (kk := ?_)
            refine gx_aload_n C 4 dd_Mo_findOnward_167 (kk := ?_)
            refine mo_get C fd_Mo_26 dd_Mo_findOnward_168 (kk := ?_)
            refine gx_iload_n C 2 dd_Mo_findOnward_171 (kk := ?_)
            refine mo_l49 C dd_Mo_findOnward_172 (by omega) (kk := ?_)
            refine gx_topi _ hxa.1 ?_
            refine gx_istore C _ dd_Mo_findOnward_173 (kk := ?_)
            have hq0 := hin (x.1 / 1024) (by omega)
            rcases hqv : u1 (x.1 / 1024) with _ | c
            · rw [hqv] at hq0
              refine gx_lload C 2 dd_Mo_findOnward_175 (kk := ?_)
              refine gx_aload_n C 5 dd_Mo_findOnward_177 (kk := ?_)
              refine mo_get C fd_Mo_50 dd_Mo_findOnward_178 (kk := ?_)
              refine gx_iload C 0 dd_Mo_findOnward_181 (kk := ?_)
              refine mo_l57 C dd_Mo_findOnward_183 (by omega) (kk := ?_)
              refine gx_topl (4000000000000000000) hq0.1 ?_
              refine gx_lcmp C dd_Mo_findOnward_184 (kk := ?_)
              refine gx_if_lt C 222 dd_Mo_findOnward_185 (fun h185 => ?_) (fun h185 => absurd (lc_lt.mpr (Int64.not_le.mp (mf_fl (by omega)))) h185)
              refine gx_aload_n C 5 dd_Mo_findOnward_222 (kk := ?_)
              refine mo_get C fd_Mo_50 dd_Mo_findOnward_223 (kk := ?_)
              refine gx_iload C 0 dd_Mo_findOnward_226 (kk := ?_)
              refine gx_lload C 2 dd_Mo_findOnward_228 (kk := ?_)
              refine mo_s57 C dd_Mo_findOnward_230 (by omega) (kk := fun L230 hL230 => ?_)
              refine gx_aload_n C 5 dd_Mo_findOnward_231 (kk := ?_)
              refine mo_get C fd_Mo_53 dd_Mo_findOnward_232 (kk := ?_)
              refine gx_iload C 0 dd_Mo_findOnward_235 (kk := ?_)
              refine gx_iload C 1 dd_Mo_findOnward_237 (kk := ?_)
              refine mo_s58 C dd_Mo_findOnward_239 (by omega) (kk := fun F239 hF239 => ?_)
              refine gx_iinc C 3 (nI (65 * ia + (j + 1))) _ dd_Mo_findOnward_240 (nI_1 _) (kk := ?_)
              refine gx_goto C 93 dd_Mo_findOnward_243 (kk := ?_)
              refine gx_loc [0, 4, 5, 6] ?_
              have hrx : ls_rx u1 (mn_x x) = va_up u1 (x.1 / 1024) (some (d + (x.2 * 4096 + 1))) := (ls_rx_y (by show ls_lt (ls_ad (u1 (x.1 % 16)) (x.2 * 4096 + 1)) (u1 (x.1 / 1024)) = true; rw [hto, hqv]; rfl)).trans (by show va_up u1 (x.1 / 1024) (ls_ad (u1 (x.1 % 16)) (x.2 * 4096 + 1)) = _; rw [hto]; rfl)
              exact ihj (j + 1) _ F239 L230 (by omega) (hrx.symm.trans (by rw [hv1, List.take_add_one, hx, Option.toList_some, List.map_append, List.map_singleton, ls_rd_s])) (mn_up hL230 hF239 (by omega) (by omega) hin) (by rw [← hrx]; exact mn_rx (k := r0 * 64 + j) hb1 hxb.2 (by omega)) (fun k hk => by rw [hF239, gm_un hk]; exact hFk k hk) (fun k hk => by rw [hL230, gm_un hk]; exact hLk k hk)
            · rw [hqv] at hq0
              have hcb := hb1 _ _ hqv
              refine gx_lload C 2 dd_Mo_findOnward_175 (kk := ?_)
              refine gx_aload_n C 5 dd_Mo_findOnward_177 (kk := ?_)
              refine mo_get C fd_Mo_50 dd_Mo_findOnward_178 (kk := ?_)
              refine gx_iload C 0 dd_Mo_findOnward_181 (kk := ?_)
              refine mo_l57 C dd_Mo_findOnward_183 (by omega) (kk := ?_)
              refine gx_topl (lN (c / 4096)) hq0.1 ?_
              refine gx_lcmp C dd_Mo_findOnward_184 (kk := ?_)
              refine gx_if_lt C 222 dd_Mo_findOnward_185 (fun h185 => ?_) (fun h185 => ?_)
              · refine gx_aload_n C 5 dd_Mo_findOnward_222 (kk := ?_)
                refine mo_get C fd_Mo_50 dd_Mo_findOnward_223 (kk := ?_)
                refine gx_iload C 0 dd_Mo_findOnward_226 (kk := ?_)
                refine gx_lload C 2 dd_Mo_findOnward_228 (kk := ?_)
                refine mo_s57 C dd_Mo_findOnward_230 (by omega) (kk := fun L230 hL230 => ?_)
                refine gx_aload_n C 5 dd_Mo_findOnward_231 (kk := ?_)
                refine mo_get C fd_Mo_53 dd_Mo_findOnward_232 (kk := ?_)
                refine gx_iload C 0 dd_Mo_findOnward_235 (kk := ?_)
                refine gx_iload C 1 dd_Mo_findOnward_237 (kk := ?_)
                refine mo_s58 C dd_Mo_findOnward_239 (by omega) (kk := fun F239 hF239 => ?_)
                refine gx_iinc C 3 (nI (65 * ia + (j + 1))) _ dd_Mo_findOnward_240 (nI_1 _) (kk := ?_)
                refine gx_goto C 93 dd_Mo_findOnward_243 (kk := ?_)
                refine gx_loc [0, 4, 5, 6] ?_
                rw [lc_lt, pk_lLT (by omega) (by omega)] at h185
                have hrx : ls_rx u1 (mn_x x) = va_up u1 (x.1 / 1024) (some (d + (x.2 * 4096 + 1))) := (ls_rx_y (by show ls_lt (ls_ad (u1 (x.1 % 16)) (x.2 * 4096 + 1)) (u1 (x.1 / 1024)) = true; rw [hto, hqv]; exact decide_eq_true (show d + (x.2 * 4096 + 1) < c by omega))).trans (by show va_up u1 (x.1 / 1024) (ls_ad (u1 (x.1 % 16)) (x.2 * 4096 + 1)) = _; rw [hto]; rfl)
                exact ihj (j + 1) _ F239 L230 (by omega) (hrx.symm.trans (by rw [hv1, List.take_add_one, hx, Option.toList_some, List.map_append, List.map_singleton, ls_rd_s])) (mn_up hL230 hF239 (by omega) (by omega) hin) (by rw [← hrx]; exact mn_rx (k := r0 * 64 + j) hb1 hxb.2 (by omega)) (fun k hk => by rw [hF239, gm_un hk]; exact hFk k hk) (fun k hk => by rw [hL230, gm_un hk]; exact hLk k hk)
              · refine gx_lload C 2 dd_Mo_findOnward_188 (kk := ?_)
                refine gx_ldc2 C dd_Mo_findOnward_190 kc_Mo_129 (kk := ?_)
                refine gx_lcmp C dd_Mo_findOnward_193 (kk := ?_)
                refine gx_if_ge C 240 dd_Mo_findOnward_194 (fun h194 => absurd (lc_ge.mp h194) (mf_fl (by omega))) (fun h194 => ?_)
                refine gx_lload C 2 dd_Mo_findOnward_197 (kk := ?_)
                refine gx_aload_n C 5 dd_Mo_findOnward_199 (kk := ?_)
                refine mo_get C fd_Mo_50 dd_Mo_findOnward_200 (kk := ?_)
                refine gx_iload C 0 dd_Mo_findOnward_203 (kk := ?_)
                refine mo_l57 C dd_Mo_findOnward_205 (by omega) (kk := ?_)
                refine gx_topl (lN (c / 4096)) hq0.1 ?_
                refine gx_lcmp C dd_Mo_findOnward_206 (kk := ?_)
                refine gx_if_ne C 240 dd_Mo_findOnward_207 (fun h207 => ?_) (fun h207 => ?_)
                · refine gx_iinc C 3 (nI (65 * ia + (j + 1))) _ dd_Mo_findOnward_240 (nI_1 _) (kk := ?_)
                  refine gx_goto C 93 dd_Mo_findOnward_243 (kk := ?_)
                  refine gx_loc [0, 4, 5, 6] ?_
                  rw [lc_lt, pk_lLT (by omega) (by omega)] at h185
                  rw [lc_eq, pk_lEQ (by omega) (by omega)] at h207
                  have hrx : ls_rx u1 (mn_x x) = u1 := ls_rx_n (by show ¬ ls_lt (ls_ad (u1 (x.1 % 16)) (x.2 * 4096 + 1)) (u1 (x.1 / 1024)) = true; rw [hto, hqv]; exact fun e => absurd (of_decide_eq_true e) (show ¬ d + (x.2 * 4096 + 1) < c by omega))
                  exact ihj (j + 1) u1 F1 L1 (by omega) (hrx.symm.trans (by rw [hv1, List.take_add_one, hx, Option.toList_some, List.map_append, List.map_singleton, ls_rd_s])) hin (mn_bm hb1 (by omega)) hFk hLk
                · refine gx_iload C 1 dd_Mo_findOnward_210 (kk := ?_)
                  refine gx_aload_n C 5 dd_Mo_findOnward_212 (kk := ?_)
                  refine mo_get C fd_Mo_53 dd_Mo_findOnward_213 (kk := ?_)
                  refine gx_iload C 0 dd_Mo_findOnward_216 (kk := ?_)
                  refine mo_l58 C dd_Mo_findOnward_218 (by omega) (kk := ?_)
                  refine gx_topi (nI (c % 4096)) hq0.2 ?_
                  refine gx_icmp_ge C 240 dd_Mo_findOnward_219 (fun h219 => ?_) (fun h219 => ?_)
                  · refine gx_iinc C 3 (nI (65 * ia + (j + 1))) _ dd_Mo_findOnward_240 (nI_1 _) (kk := ?_)
                    refine gx_goto C 93 dd_Mo_findOnward_243 (kk := ?_)
                    refine gx_loc [0, 4, 5, 6] ?_
                    rw [lc_lt, pk_lLT (by omega) (by omega)] at h185
                    rw [lc_eq, pk_lEQ (by omega) (by omega)] at h207
                    rw [nI_leI (by omega) (by omega)] at h219
                    have hrx : ls_rx u1 (mn_x x) = u1 := ls_rx_n (by show ¬ ls_lt (ls_ad (u1 (x.1 % 16)) (x.2 * 4096 + 1)) (u1 (x.1 / 1024)) = true; rw [hto, hqv]; exact fun e => absurd (of_decide_eq_true e) (show ¬ d + (x.2 * 4096 + 1) < c by omega))
                    exact ihj (j + 1) u1 F1 L1 (by omega) (hrx.symm.trans (by rw [hv1, List.take_add_one, hx, Option.toList_some, List.map_append, List.map_singleton, ls_rd_s])) hin (mn_bm hb1 (by omega)) hFk hLk
                  · refine gx_aload_n C 5 dd_Mo_findOnward_222 (kk := ?_)
                    refine mo_get C fd_Mo_50 dd_Mo_findOnward_223 (kk := ?_)
                    refine gx_iload C 0 dd_Mo_findOnward_226 (kk := ?_)
                    refine gx_lload C 2 dd_Mo_findOnward_228 (kk := ?_)
                    refine mo_s57 C dd_Mo_findOnward_230 (by omega) (kk := fun L230 hL230 => ?_)
                    refine gx_aload_n C 5 dd_Mo_findOnward_231 (kk := ?_)
                    refine mo_get C fd_Mo_53 dd_Mo_findOnward_232 (kk := ?_)
                    refine gx_iload C 0 dd_Mo_findOnward_235 (kk := ?_)
                    refine gx_iload C 1 dd_Mo_findOnward_237 (kk := ?_)
                    refine mo_s58 C dd_Mo_findOnward_239 (by omega) (kk := fun F239 hF239 => ?_)
                    refine gx_iinc C 3 (nI (65 * ia + (j + 1))) _ dd_Mo_findOnward_240 (nI_1 _) (kk := ?_)
                    refine gx_goto C 93 dd_Mo_findOnward_243 (kk := ?_)
                    refine gx_loc [0, 4, 5, 6] ?_
                    rw [lc_lt, pk_lLT (by omega) (by omega)] at h185
                    rw [lc_eq, pk_lEQ (by omega) (by omega)] at h207
                    rw [nI_leI (by omega) (by omega)] at h219
                    have hrx : ls_rx u1 (mn_x x) = va_up u1 (x.1 / 1024) (some (d + (x.2 * 4096 + 1))) := (ls_rx_y (by show ls_lt (ls_ad (u1 (x.1 % 16)) (x.2 * 4096 + 1)) (u1 (x.1 / 1024)) = true; rw [hto, hqv]; exact decide_eq_true (show d + (x.2 * 4096 + 1) < c by omega))).trans (by show va_up u1 (x.1 / 1024) (ls_ad (u1 (x.1 % 16)) (x.2 * 4096 + 1)) = _; rw [hto]; rfl)
                    exact ihj (j + 1) _ F239 L230 (by omega) (hrx.symm.trans (by rw [hv1, List.take_add_one, hx, Option.toList_some, List.map_append, List.map_singleton, ls_rd_s])) (mn_up hL230 hF239 (by omega) (by omega) hin) (by rw [← hrx]; exact mn_rx (k := r0 * 64 + j) hb1 hxb.2 (by omega)) (fun k hk => by rw [hF239, gm_un hk]; exact hFk k hk) (fun k hk => by rw [hL230, gm_un hk]; exact hLk k hk)
      exact inner (am_ar A).length 0 ur F1 L1 (by omega) rfl hin hb1 hFk hLk
  have fill : ∀ m q F1 L1, q + m = 16 → (∀ s, s < q → L1 57 s = mf ((mn_v A s).map (fun c => c / 4096)) ∧ F1 58 s = nI (mn_F (mn_v A s))) → (∀ k, k ≠ 58 → F1 k = F k) → (∀ k, k ≠ 57 → L1 k = L k) → gx_G K D 8 0 0 2 [(2, .int (nI q)), (0, .ref (ad 43)), (1, .int (nI ia))] [] (gx_w ad (mo_h dA ad h F1 L1 S)) (gx_Z K D dA 0 0 (fun v w => v = none ∧ ∃ F2 L2, w = (gx_w ad (mo_h dA ad h F2 L2 S)) ∧ (∀ k, k ≠ 58 → F2 k = F k) ∧ (∀ k, k ≠ 57 → L2 k = L k) ∧ mn_ok F2 L2 A)) := by
    intro m
    induction m with
    | zero =>
      intro q F1 L1 hq0 hf hFk hLk
      refine gx_iload_n C 0 dd_Mo_findOnward_2 (kk := ?_)
      refine gx_bipush (v := nI 16) C dd_Mo_findOnward_3 (kk := ?_)
      refine gx_icmp_ge C 80 dd_Mo_findOnward_5 (fun h5 => ?_) (fun h5 => absurd (nI_le (a := 16) (b := q) (by omega) (by omega)) h5)
      refine gx_iconst (v := nI 0) C dd_Mo_findOnward_80 (kk := ?_)
      refine gx_istore_n C _ dd_Mo_findOnward_81 (kk := ?_)
      exact rounds 40 0 (mn_v A) F1 L1 rfl rfl (fun s hs => hf s (by omega)) (mn_vb hok) hFk hLk
    | succ m ih =>
      intro q F1 L1 hq0 hf hFk hLk
      refine gx_iload_n C 0 dd_Mo_findOnward_2 (kk := ?_)
      refine gx_bipush (v := nI 16) C dd_Mo_findOnward_3 (kk := ?_)
      refine gx_icmp_ge C 80 dd_Mo_findOnward_5 (fun h5 => absurd h5 (nI_ge (by omega) (by omega))) (fun h5 => ?_)
      rcases Nat.lt_or_ge q (am_n A) with hqn | hqn
      · refine gx_iload_n C 0 dd_Mo_findOnward_8 (kk := ?_)
        refine gx_aload_n C 1 dd_Mo_findOnward_9 (kk := ?_)
        refine mo_get C fd_Mo_7 dd_Mo_findOnward_10 (kk := ?_)
        refine gx_iload_n C 2 dd_Mo_findOnward_13 (kk := ?_)
        refine mo_l44 C dd_Mo_findOnward_14 (by omega) (kk := ?_)
        refine gx_topi _ (mo_is_k (fun k hk => hFk k (by omega)) (fun k hk => hLk k (by omega)) hA).1 ?_
        refine gx_icmp_ge C 38 dd_Mo_findOnward_15 (fun h15 => absurd h15 (nI_ge (by omega) (by omega))) (fun h15 => ?_)
        have heq0 := (mo_is_k (fun k hk => hFk k (by omega)) (fun k hk => hLk k (by omega)) hA).2.2.1 q (by omega)
        rcases heq : am_en A q with _ | e
        · rw [heq] at heq0
          refine gx_aload_n C 1 dd_Mo_findOnward_18 (kk := ?_)
          refine mo_get C fd_Mo_20 dd_Mo_findOnward_19 (kk := ?_)
          refine gx_bipush (v := nI 16) C dd_Mo_findOnward_22 (kk := ?_)
          refine gx_iload_n C 2 dd_Mo_findOnward_24 (kk := ?_)
          refine gx_imul C dd_Mo_findOnward_25 (kk := ?_)
          refine gx_topi _ (pk_mul _ _) ?_
          refine gx_iload_n C 0 dd_Mo_findOnward_26 (kk := ?_)
          refine gx_iadd C dd_Mo_findOnward_27 (kk := ?_)
          refine gx_topi _ (nI_add _ _) ?_
          refine mo_l47 C dd_Mo_findOnward_28 (by omega) (kk := ?_)
          refine gx_topl _ heq0 ?_
          refine gx_lconst (v := lN 0) C dd_Mo_findOnward_29 (kk := ?_)
          refine gx_lcmp C dd_Mo_findOnward_30 (kk := ?_)
          refine gx_if_lt C 38 dd_Mo_findOnward_31 (fun h31 => ?_) (fun h31 => absurd (by decide) h31)
          refine gx_iconst (v := nI 0) C dd_Mo_findOnward_38 (kk := ?_)
          refine gx_istore_n C _ dd_Mo_findOnward_39 (kk := ?_)
          refine gx_aload_n C 2 dd_Mo_findOnward_40 (kk := ?_)
          refine mo_get C fd_Mo_50 dd_Mo_findOnward_41 (kk := ?_)
          refine gx_iload_n C 1 dd_Mo_findOnward_44 (kk := ?_)
          refine gx_iload_n C 0 dd_Mo_findOnward_45 (kk := ?_)
          refine gx_if_eq C 63 dd_Mo_findOnward_46 (fun h46 => ?_) (fun h46 => absurd rfl h46)
          refine gx_ldc2 C dd_Mo_findOnward_63 kc_Mo_129 (kk := ?_)
          refine mo_s57 C dd_Mo_findOnward_66 (by omega) (kk := fun L66 hL66 => ?_)
          refine gx_aload_n C 2 dd_Mo_findOnward_67 (kk := ?_)
          refine mo_get C fd_Mo_53 dd_Mo_findOnward_68 (kk := ?_)
          refine gx_iload_n C 1 dd_Mo_findOnward_71 (kk := ?_)
          refine gx_iconst (v := nI 0) C dd_Mo_findOnward_72 (kk := ?_)
          refine mo_s58 C dd_Mo_findOnward_73 (by omega) (kk := fun F73 hF73 => ?_)
          refine gx_iinc C 1 (nI (q + 1)) _ dd_Mo_findOnward_74 (nI_1 _) (kk := ?_)
          refine gx_goto C 2 dd_Mo_findOnward_77 (kk := ?_)
          refine gx_loc [0, 2, 3] ?_
          have hmv : mn_v A q = none := by
            unfold mn_v
            rw [if_pos hqn, heq]
            rfl
          refine ih (q + 1) F73 L66 (by omega) (fun s hs => ?_) (fun k hk => by rw [hF73, gm_un hk]; exact hFk k hk) (fun k hk => by rw [hL66, gm_un hk]; exact hLk k hk)
          rw [hL66, gm_us, hF73, gm_us]
          by_cases hsq : s = q
          · rw [hsq, pk_uLs, pk_us, hmv]
            exact ⟨rfl, rfl⟩
          · rw [pk_uLn hsq, pk_un hsq]
            exact hf s (by omega)
        · rw [heq] at heq0
          have heb := hok.1.2.2.2.1 _ _ heq
          refine gx_aload_n C 1 dd_Mo_findOnward_18 (kk := ?_)
          refine mo_get C fd_Mo_20 dd_Mo_findOnward_19 (kk := ?_)
          refine gx_bipush (v := nI 16) C dd_Mo_findOnward_22 (kk := ?_)
          refine gx_iload_n C 2 dd_Mo_findOnward_24 (kk := ?_)
          refine gx_imul C dd_Mo_findOnward_25 (kk := ?_)
          refine gx_topi _ (pk_mul _ _) ?_
          refine gx_iload_n C 0 dd_Mo_findOnward_26 (kk := ?_)
          refine gx_iadd C dd_Mo_findOnward_27 (kk := ?_)
          refine gx_topi _ (nI_add _ _) ?_
          refine mo_l47 C dd_Mo_findOnward_28 (by omega) (kk := ?_)
          refine gx_topl _ heq0 ?_
          refine gx_lconst (v := lN 0) C dd_Mo_findOnward_29 (kk := ?_)
          refine gx_lcmp C dd_Mo_findOnward_30 (kk := ?_)
          refine gx_if_lt C 38 dd_Mo_findOnward_31 (fun h31 => absurd (lc_lt.mp h31) (by show ¬ lN e < lN 0; rw [pk_lLT (by omega) (by decide)]; omega)) (fun h31 => ?_)
          refine gx_iconst (v := nI 1) C dd_Mo_findOnward_34 (kk := ?_)
          refine gx_goto C 39 dd_Mo_findOnward_35 (kk := ?_)
          refine gx_istore_n C _ dd_Mo_findOnward_39 (kk := ?_)
          refine gx_aload_n C 2 dd_Mo_findOnward_40 (kk := ?_)
          refine mo_get C fd_Mo_50 dd_Mo_findOnward_41 (kk := ?_)
          refine gx_iload_n C 1 dd_Mo_findOnward_44 (kk := ?_)
          refine gx_iload_n C 0 dd_Mo_findOnward_45 (kk := ?_)
          refine gx_if_eq C 63 dd_Mo_findOnward_46 (fun h46 => absurd h46 (by decide)) (fun h46 => ?_)
          refine gx_aload_n C 2 dd_Mo_findOnward_49 (kk := ?_)
          refine mo_get C fd_Mo_20 dd_Mo_findOnward_50 (kk := ?_)
          refine gx_bipush (v := nI 16) C dd_Mo_findOnward_53 (kk := ?_)
          refine gx_iload_n C 3 dd_Mo_findOnward_55 (kk := ?_)
          refine gx_imul C dd_Mo_findOnward_56 (kk := ?_)
          refine gx_topi _ (pk_mul _ _) ?_
          refine gx_iload_n C 1 dd_Mo_findOnward_57 (kk := ?_)
          refine gx_iadd C dd_Mo_findOnward_58 (kk := ?_)
          refine gx_topi _ (nI_add _ _) ?_
          refine mo_l47 C dd_Mo_findOnward_59 (by omega) (kk := ?_)
          refine gx_topl _ heq0 ?_
          refine gx_goto C 66 dd_Mo_findOnward_60 (kk := ?_)
          refine mo_s57 C dd_Mo_findOnward_66 (by omega) (kk := fun L66 hL66 => ?_)
          refine gx_aload_n C 2 dd_Mo_findOnward_67 (kk := ?_)
          refine mo_get C fd_Mo_53 dd_Mo_findOnward_68 (kk := ?_)
          refine gx_iload_n C 1 dd_Mo_findOnward_71 (kk := ?_)
          refine gx_iconst (v := nI 0) C dd_Mo_findOnward_72 (kk := ?_)
          refine mo_s58 C dd_Mo_findOnward_73 (by omega) (kk := fun F73 hF73 => ?_)
          refine gx_iinc C 1 (nI (q + 1)) _ dd_Mo_findOnward_74 (nI_1 _) (kk := ?_)
          refine gx_goto C 2 dd_Mo_findOnward_77 (kk := ?_)
          refine gx_loc [0, 2, 3] ?_
          have hmv : mn_v A q = some (e * 4096) := by
            unfold mn_v
            rw [if_pos hqn, heq]
            rfl
          refine ih (q + 1) F73 L66 (by omega) (fun s hs => ?_) (fun k hk => by rw [hF73, gm_un hk]; exact hFk k hk) (fun k hk => by rw [hL66, gm_un hk]; exact hLk k hk)
          rw [hL66, gm_us, hF73, gm_us]
          by_cases hsq : s = q
          · rw [hsq, pk_uLs, pk_us, hmv]
            refine ⟨?_, ?_⟩
            · show lN e = lN (e * 4096 / 4096)
              rw [Nat.mul_div_cancel _ (by decide)]
            · show nI 0 = nI (e * 4096 % 4096)
              rw [Nat.mul_mod_left]
          · rw [pk_uLn hsq, pk_un hsq]
            exact hf s (by omega)
      · replace hqn : ¬ q < am_n A := by omega
        refine gx_iload_n C 0 dd_Mo_findOnward_8 (kk := ?_)
        refine gx_aload_n C 1 dd_Mo_findOnward_9 (kk := ?_)
        refine mo_get C fd_Mo_7 dd_Mo_findOnward_10 (kk := ?_)
        refine gx_iload_n C 2 dd_Mo_findOnward_13 (kk := ?_)
        refine mo_l44 C dd_Mo_findOnward_14 (by omega) (kk := ?_)
        refine gx_topi _ (mo_is_k (fun k hk => hFk k (by omega)) (fun k hk => hLk k (by omega)) hA).1 ?_
        refine gx_icmp_ge C 38 dd_Mo_findOnward_15 (fun h15 => ?_) (fun h15 => absurd (nI_le (a := am_n A) (b := q) (by omega) (by omega)) h15)
        refine gx_iconst (v := nI 0) C dd_Mo_findOnward_38 (kk := ?_)
        refine gx_istore_n C _ dd_Mo_findOnward_39 (kk := ?_)
        refine gx_aload_n C 2 dd_Mo_findOnward_40 (kk := ?_)
        refine mo_get C fd_Mo_50 dd_Mo_findOnward_41 (kk := ?_)
        refine gx_iload_n C 1 dd_Mo_findOnward_44 (kk := ?_)
        refine gx_iload_n C 0 dd_Mo_findOnward_45 (kk := ?_)
        refine gx_if_eq C 63 dd_Mo_findOnward_46 (fun h46 => ?_) (fun h46 => absurd rfl h46)
        refine gx_ldc2 C dd_Mo_findOnward_63 kc_Mo_129 (kk := ?_)
        refine mo_s57 C dd_Mo_findOnward_66 (by omega) (kk := fun L66 hL66 => ?_)
        refine gx_aload_n C 2 dd_Mo_findOnward_67 (kk := ?_)
        refine mo_get C fd_Mo_53 dd_Mo_findOnward_68 (kk := ?_)
        refine gx_iload_n C 1 dd_Mo_findOnward_71 (kk := ?_)
        refine gx_iconst (v := nI 0) C dd_Mo_findOnward_72 (kk := ?_)
        refine mo_s58 C dd_Mo_findOnward_73 (by omega) (kk := fun F73 hF73 => ?_)
        refine gx_iinc C 1 (nI (q + 1)) _ dd_Mo_findOnward_74 (nI_1 _) (kk := ?_)
        refine gx_goto C 2 dd_Mo_findOnward_77 (kk := ?_)
        refine gx_loc [0, 2, 3] ?_
        have hmv : mn_v A q = none := by
          unfold mn_v
          rw [if_neg hqn]
        refine ih (q + 1) F73 L66 (by omega) (fun s hs => ?_) (fun k hk => by rw [hF73, gm_un hk]; exact hFk k hk) (fun k hk => by rw [hL66, gm_un hk]; exact hLk k hk)
        rw [hL66, gm_us, hF73, gm_us]
        by_cases hsq : s = q
        · rw [hsq, pk_uLs, pk_us, hmv]
          exact ⟨rfl, rfl⟩
        · rw [pk_uLn hsq, pk_un hsq]
          exact hf s (by omega)
  refine gx_iconst (v := nI 0) C dd_Mo_findOnward_0 (kk := ?_)
  refine gx_istore_n C _ dd_Mo_findOnward_1 (kk := ?_)
  exact fill 16 0 F L rfl (fun s hs => absurd hs (Nat.not_lt_zero _)) (fun _ _ => rfl) (fun _ _ => rfl)
theorem mo_is_sw {F : mo_F} {L L2 : mo_L} {s q w w0 n : Nat} {en : Nat → Option Nat} {ar : List (Nat × Nat)} (hL : L2 = va_up L 46 (vp_updL (L 46) s (lN w))) (h : mo_is F L s (n, some (q, w0), en, ar)) : mo_is F L2 s (n, some (q, w), en, ar) := by
  have e2 : ∀ k, k ≠ 46 → L2 k = L k := fun k hk => by rw [hL, gm_un hk]
  obtain ⟨h1, h2, h3, h4, h5, h6⟩ := h
  refine ⟨h1, ⟨h2.1, by rw [hL, gm_us, pk_uLs]⟩, by rw [e2 47 (by decide)]; exact h3, h4, ?_, h6⟩
  unfold mo_a
  rw [e2 53 (by decide)]
  exact h5
theorem va_up_id {α : Type} (f : Nat → α) (q : Nat) {x : α} (h : f q = x) : va_up f q x = f := by
  funext j
  by_cases hj : j = q
  · subst hj
    rw [gm_us, h]
  · rw [gm_un hj]
theorem mb_brb {ar : List (Nat × Nat)} {x : Nat × Nat} (h : ∀ x ∈ ar, x.1 < 16384 ∧ x.2 < 35184372088832) (hk : x.1 < 16384) (hw : x.2 < 35184372088832) : ∀ z ∈ mk_br ar x, z.1 < 16384 ∧ z.2 < 35184372088832 := by
  unfold mk_br
  split
  · exact mb_arb h hk hw
  · exact h
theorem mb_brs {ar : List (Nat × Nat)} {x : Nat × Nat} (h : am_so ar) : am_so (mk_br ar x) := by
  unfold mk_br
  split
  · exact am_in_so h
  · exact h
set_option maxRecDepth 100000 in
set_option maxHeartbeats 4000000 in
theorem ct_Mo_push (l : Launch) (D : va_G) (dA : Nat → ClassId) (ad : Nat → Nat) (h : Nat → va_E) (F : mo_F) (L : mo_L) (S : Nat → Int32) {σ : sg} (hr : rs F L S σ) (hσ : sg_ok σ) (a c : Int32) : gx_Ct l D dA yy_Mo_push cc_Mo_push 6 (some .int) 2 0 0 [.ref (ad 43), .int a, .int c] (gx_w ad (mo_h dA ad h F L S)) (fun v w => ∃ F2 L2 S2, w = (gx_w ad (mo_h dA ad h F2 L2 S2)) ∧ rs F2 L2 S2 (o_push σ a c).2 ∧ v = some (.int (o_push σ a c).1)) := by
  refine gx_of (by decide) (Nat.le_of_ble_eq_true rfl) (fun K C _ _ => ?_)
  have hM := hr.1
  have hP := hr.2.1
  have hX := hr.2.2
  refine gx_iload_n C 1 dd_Mo_push_0 (kk := ?_)
  refine gx_callS C (ct_Mo_isSlot (gx_l K) D dA _ a) me_Mo_isSlot ml_Mo_81 ms_Mo_isSlot dd_Mo_push_1 (kk := fun v w hq => ?_)
  obtain ⟨rfl, rfl⟩ := hq
  rcases hi : ix 4 a with _ | i
  · refine gx_if_eq C 14 dd_Mo_push_4 (fun h4 => ?_) (fun h4 => absurd rfl h4)
    refine gx_iconst (v := -1) C dd_Mo_push_14 (kk := ?_)
    refine gx_iret C dd_Mo_push_15 ?_
    have hsp : o_push σ a c = (-1, σ) := by
      unfold o_push
      simp only [hi]
    rw [hsp]
    exact ⟨F, L, S, rfl, hr, rfl⟩
  · obtain ⟨hi4, rfl⟩ := ix_of (by decide) hi
    refine gx_if_eq C 14 dd_Mo_push_4 (fun h4 => absurd (show true = false from fb_0.mp h4) (by decide)) (fun h4 => ?_)
    refine gx_iload_n C 2 dd_Mo_push_7 (kk := ?_)
    refine gx_callS C (ct_Mo_isSlot (gx_l K) D dA _ c) me_Mo_isSlot ml_Mo_81 ms_Mo_isSlot dd_Mo_push_8 (kk := fun v w hq => ?_)
    obtain ⟨rfl, rfl⟩ := hq
    rcases hk : ix 4 c with _ | k
    · refine gx_if_ne C 16 dd_Mo_push_11 (fun h11 => absurd rfl h11) (fun h11 => ?_)
      refine gx_iconst (v := -1) C dd_Mo_push_14 (kk := ?_)
      refine gx_iret C dd_Mo_push_15 ?_
      have hsp : o_push σ (nI i) c = (-1, σ) := by
        unfold o_push
        simp only [hi, hk]
      rw [hsp]
      exact ⟨F, L, S, rfl, hr, rfl⟩
    · obtain ⟨hk4, rfl⟩ := ix_of (by decide) hk
      refine gx_if_ne C 16 dd_Mo_push_11 (fun h11 => ?_) (fun h11 => absurd (show true = false from fb_0.mp h11) (by decide))
      refine gx_aload_n C 0 dd_Mo_push_16 (kk := ?_)
      refine gx_iload_n C 1 dd_Mo_push_17 (kk := ?_)
      refine gx_callV C (ct_Mo_findOnward (gx_l K) D dA ad h F L S (ia := i) hi4 (hM i hi4) (hσ.1 i hi4)) me_Mo_findOnward ml_Mo_148 mn_Mo_findOnward _ (gx_w_at (by decide) mo_h_43) rfl dd_Mo_push_18 (kk := fun v w hq => ?_)
      have hok := hσ.1 i hi4
      have hn16 := hok.1.1
      have hl64 := hok.1.2.1
      obtain ⟨rfl, F2, L2, rfl, hF2, hL2, hmn2⟩ := hq
      have hw2 : mo_w F L F2 L2 := mo_w_k (fun k hk => hF2 k (by omega)) (fun k hk => hL2 k (by omega))
      refine gx_aload_n C 0 dd_Mo_push_21 (kk := ?_)
      refine gx_iconst (v := nI 4) C dd_Mo_push_22 (kk := ?_)
      refine gx_aload_n C 0 dd_Mo_push_23 (kk := ?_)
      refine mo_get C fd_Mo_7 dd_Mo_push_24 (kk := ?_)
      refine gx_iload_n C 1 dd_Mo_push_27 (kk := ?_)
      refine mo_l44 C dd_Mo_push_28 (by omega) (kk := ?_)
      refine gx_topi _ (mo_w_is hw2 hi4 (hM i hi4)).1 ?_
      refine gx_callV C (ct_Mo_blank (gx_l K) D dA ad h F2 L2 S (s := 4) (n := am_n (σ.1 i)) (by decide)) me_Mo_blank ml_Mo_75 mn_Mo_blank _ (gx_w_at (by decide) mo_h_43) rfl dd_Mo_push_29 (kk := fun v w hq => ?_)
      obtain ⟨rfl, F4, L4, rfl, hM4, hf4⟩ := hq
      refine gx_aload_n C 0 dd_Mo_push_32 (kk := ?_)
      refine mo_get C fd_Mo_13 dd_Mo_push_33 (kk := ?_)
      refine gx_iconst (v := nI 4) C dd_Mo_push_36 (kk := ?_)
      refine gx_aload_n C 0 dd_Mo_push_37 (kk := ?_)
      refine mo_get C fd_Mo_13 dd_Mo_push_38 (kk := ?_)
      refine gx_iload_n C 1 dd_Mo_push_41 (kk := ?_)
      refine mo_l45 C dd_Mo_push_42 (by omega) (kk := ?_)
      refine mo_s45 C dd_Mo_push_43 (by omega) (kk := fun F43 hF43 => ?_)
      refine gx_aload_n C 0 dd_Mo_push_44 (kk := ?_)
      refine mo_get C fd_Mo_16 dd_Mo_push_45 (kk := ?_)
      refine gx_iconst (v := nI 4) C dd_Mo_push_48 (kk := ?_)
      refine gx_aload_n C 0 dd_Mo_push_49 (kk := ?_)
      refine mo_get C fd_Mo_16 dd_Mo_push_50 (kk := ?_)
      refine gx_iload_n C 1 dd_Mo_push_53 (kk := ?_)
      refine mo_l46 C dd_Mo_push_54 (by omega) (kk := ?_)
      refine mo_s46 C dd_Mo_push_55 (by omega) (kk := fun L55 hL55 => ?_)
      have hw5 : mo_w F L F43 L55 := mo_w_tr hw2 (mo_w_tr (mo_w_fr hf4) (mo_w_fr (mo_fr_tr (mo_fr_45 hF43) (mo_fr_46 hL55))))
      have hM5 : mo_is F43 L55 4 (am_n (σ.1 i), am_st (σ.1 i), (fun _ => none), []) := mo_is_sq hF43 hL55 (mo_w_is (mo_w_tr hw2 (mo_w_fr hf4)) hi4 (hM i hi4)).2.1 hM4
      have hmn5 : mn_ok F43 L55 (σ.1 i) := mn_ok_k (by rw [hF43, gm_un (by decide)]; exact (hf4.2.2.2 58 (by decide)).1) (by rw [hL55, gm_un (by decide)]; exact (hf4.2.2.2 57 (by decide)).2) hmn2
      have hsq := (mo_w_is hw5 hi4 (hM i hi4)).2.1
      rcases hst : am_st (σ.1 i) with _ | xa
      · rw [hst] at hsq
        refine gx_aload_n C 0 dd_Mo_push_56 (kk := ?_)
        refine mo_get C fd_Mo_13 dd_Mo_push_57 (kk := ?_)
        refine gx_iload_n C 1 dd_Mo_push_60 (kk := ?_)
        refine mo_l45 C dd_Mo_push_61 (by omega) (kk := ?_)
        refine gx_topi _ hsq.1 ?_
        refine gx_if_lt C 107 dd_Mo_push_62 (fun h62 => ?_) (fun h62 => absurd (by decide) h62)
        have hps : pu_st (σ.1 i) (on_of (σ.1 i)) = am_st (σ.1 i) := by
          unfold pu_st
          rw [hst]
          rfl
        have hM6 : mo_is F43 L55 4 (am_n (σ.1 i), pu_st (σ.1 i) (on_of (σ.1 i)), (fun _ => none), []) := by
          rw [hps]
          exact hM5
        refine gx_bipush (v := nI 65) C dd_Mo_push_107 (kk := ?_)
        refine gx_iload_n C 1 dd_Mo_push_109 (kk := ?_)
        refine gx_imul C dd_Mo_push_110 (kk := ?_)
        refine gx_topi _ (pk_mul _ _) ?_
        refine gx_istore_n C _ dd_Mo_push_111 (kk := ?_)
        have arcs : ∀ m j F1 L1, j + m = (am_ar (σ.1 i)).length → mo_is F1 L1 4 (am_n (σ.1 i), pu_st (σ.1 i) (on_of (σ.1 i)), (fun _ => none), pu_ar (on_of (σ.1 i)) (am_ar (σ.1 i)) j) → mo_w F L F1 L1 → mn_ok F1 L1 (σ.1 i) → am_so (pu_ar (on_of (σ.1 i)) (am_ar (σ.1 i)) j) → (∀ x ∈ (pu_ar (on_of (σ.1 i)) (am_ar (σ.1 i)) j), x.1 < 16384 ∧ x.2 < 35184372088832) → gx_G K D 6 0 0 112 [(3, .int (nI (65 * i + j))), (0, .ref (ad 43)), (1, .int (nI i)), (2, .int (nI k))] [] (gx_w ad (mo_h dA ad h F1 L1 S)) (gx_Z K D dA 0 0 (fun v w => ∃ F2 L2 S2, w = (gx_w ad (mo_h dA ad h F2 L2 S2)) ∧ rs F2 L2 S2 (o_push σ (nI i) (nI k)).2 ∧ v = some (.int (o_push σ (nI i) (nI k)).1))) := by
          intro m
          induction m with
          | zero =>
            intro j F1 L1 hj hM1 hw1 hmn hso hab
            refine gx_iload_n C 0 dd_Mo_push_112 (kk := ?_)
            refine gx_bipush (v := nI 65) C dd_Mo_push_113 (kk := ?_)
            refine gx_iload_n C 2 dd_Mo_push_115 (kk := ?_)
            refine gx_imul C dd_Mo_push_116 (kk := ?_)
            refine gx_topi _ (pk_mul _ _) ?_
            refine gx_aload_n C 1 dd_Mo_push_117 (kk := ?_)
            refine mo_get C fd_Mo_23 dd_Mo_push_118 (kk := ?_)
            refine gx_iload_n C 2 dd_Mo_push_121 (kk := ?_)
            refine mo_l48 C dd_Mo_push_122 (by omega) (kk := ?_)
            refine gx_topi _ (mo_w_is hw1 hi4 (hM i hi4)).2.2.2.1 ?_
            refine gx_iadd C dd_Mo_push_123 (kk := ?_)
            refine gx_topi _ (nI_add _ _) ?_
            refine gx_icmp_ge C 230 dd_Mo_push_124 (fun h124 => ?_) (fun h124 => absurd (nI_le (a := 65 * i + (am_ar (σ.1 i)).length) (b := 65 * i + j) (by omega) (by omega)) h124)
            refine gx_iconst (v := nI 0) C dd_Mo_push_230 (kk := ?_)
            refine gx_istore_n C _ dd_Mo_push_231 (kk := ?_)
            obtain rfl : j = (am_ar (σ.1 i)).length := by omega
            have ends : ∀ m q L1, q + m = am_n (σ.1 i) → mo_is F1 L1 4 (am_n (σ.1 i), pu_st (σ.1 i) (on_of (σ.1 i)), pu_es (σ.1 i) (on_of (σ.1 i)) q, pu_ar (on_of (σ.1 i)) (am_ar (σ.1 i)) (am_ar (σ.1 i)).length) → mo_w F L F1 L1 → mn_ok F1 L1 (σ.1 i) → gx_G K D 6 0 0 232 [(3, .int (nI q)), (0, .ref (ad 43)), (1, .int (nI i)), (2, .int (nI k))] [] (gx_w ad (mo_h dA ad h F1 L1 S)) (gx_Z K D dA 0 0 (fun v w => ∃ F2 L2 S2, w = (gx_w ad (mo_h dA ad h F2 L2 S2)) ∧ rs F2 L2 S2 (o_push σ (nI i) (nI k)).2 ∧ v = some (.int (o_push σ (nI i) (nI k)).1))) := by
              intro m
              induction m with
              | zero =>
                intro q L1 hq0 hM1 hw1 hmn
                refine gx_iload_n C 0 dd_Mo_push_232 (kk := ?_)
                refine gx_aload_n C 1 dd_Mo_push_233 (kk := ?_)
                refine mo_get C fd_Mo_7 dd_Mo_push_234 (kk := ?_)
                refine gx_iload_n C 2 dd_Mo_push_237 (kk := ?_)
                refine mo_l44 C dd_Mo_push_238 (by omega) (kk := ?_)
                refine gx_topi _ (mo_w_is hw1 hi4 (hM i hi4)).1 ?_
                refine gx_icmp_ge C 292 dd_Mo_push_239 (fun h239 => ?_) (fun h239 => absurd (nI_le (a := am_n (σ.1 i)) (b := q) (by omega) (by omega)) h239)
                have hM9 : mo_is F1 L1 4 (am_n (σ.1 i), pu_st (σ.1 i) (on_of (σ.1 i)), pu_es (σ.1 i) (on_of (σ.1 i)) (am_n (σ.1 i)), pu_ar (on_of (σ.1 i)) (am_ar (σ.1 i)) (am_ar (σ.1 i)).length) := by
                  rw [show q = am_n (σ.1 i) by omega] at hM1
                  exact hM1
                have hsb9 : ∀ x, pu_st (σ.1 i) (on_of (σ.1 i)) = some x → x.1 < 16 ∧ x.2 < 35184372088832 := (fun x hx => by
                  have hx : (am_st (σ.1 i)).map (fun x => (x.1, x.2 + pu_w ((on_of (σ.1 i)) x.1))) = some x := hx
                  rcases hst2 : am_st (σ.1 i) with _ | xa
                  · rw [hst2] at hx; cases hx
                  · rw [hst2] at hx
                    have hx : some (xa.1, xa.2 + pu_w ((on_of (σ.1 i)) xa.1)) = some x := hx
                    cases hx
                    have hxb := hok.1.2.2.2.2 xa hst2
                    refine ⟨hxb.1, ?_⟩
                    show xa.2 + pu_w ((on_of (σ.1 i)) xa.1) < _
                    rcases hcx : (on_of (σ.1 i)) xa.1 with _ | cx
                    · show xa.2 + 0 < _; omega
                    · have := ((hmn xa.1 hxb.1).2 cx hcx).2
                      show xa.2 + cx / 32 < _
                      omega)
                have heb9 : ∀ q e, pu_es (σ.1 i) (on_of (σ.1 i)) (am_n (σ.1 i)) q = some e → e < 35184372088832 := (fun q e he => by
                  unfold pu_es at he
                  split at he
                  · rcases hz : am_en (σ.1 i) q with _ | e0
                    · rw [hz] at he; cases he
                    · rw [hz] at he
                      have he : some (e0 - pu_w ((on_of (σ.1 i)) q)) = some e := he
                      cases he
                      have := hok.1.2.2.2.1 _ _ hz
                      omega
                  · cases he)
                refine gx_aload_n C 1 dd_Mo_push_292 (kk := ?_)
                refine gx_iload_n C 3 dd_Mo_push_293 (kk := ?_)
                refine gx_callV C (ct_Mo_keep (gx_l K) D dA ad h F1 L1 S (c := k) (B := 35184372088832) (b := (am_n (σ.1 i), pu_st (σ.1 i) (on_of (σ.1 i)), pu_es (σ.1 i) (on_of (σ.1 i)) (am_n (σ.1 i)), pu_ar (on_of (σ.1 i)) (am_ar (σ.1 i)) (am_ar (σ.1 i)).length)) (by omega) hM9 hn16 (by decide) (fun x hx => (hab x hx).2) heb9 hsb9) me_Mo_keep ml_Mo_126 mn_Mo_keep _ (gx_w_at (by decide) mo_h_43) rfl dd_Mo_push_294 (kk := fun v w hq => ?_)
                rcases hq with ⟨hfit, rfl, F7, L7, rfl, hM7, hf7⟩ | ⟨hfit, rfl, rfl⟩
                · refine gx_if_eq C 309 dd_Mo_push_297 (fun h297 => absurd h297 (by decide)) (fun h297 => ?_)
                  refine gx_aload_n C 1 dd_Mo_push_300 (kk := ?_)
                  refine mo_get C fd_Mo_23 dd_Mo_push_301 (kk := ?_)
                  refine gx_iload_n C 3 dd_Mo_push_304 (kk := ?_)
                  refine mo_l48 C dd_Mo_push_305 (by omega) (kk := ?_)
                  refine gx_topi (nI (pu_ar (on_of (σ.1 i)) (am_ar (σ.1 i)) (am_ar (σ.1 i)).length).length) hM7.2.2.2.1 ?_
                  refine gx_goto C 311 dd_Mo_push_306 (kk := ?_)
                  refine gx_iret C dd_Mo_push_311 ?_
                  have hmk : (some (pu_mk (σ.1 i) (on_of (σ.1 i))) : Option am_T) = some (am_n (σ.1 i), pu_st (σ.1 i) (on_of (σ.1 i)), pu_es (σ.1 i) (on_of (σ.1 i)) (am_n (σ.1 i)), pu_ar (on_of (σ.1 i)) (am_ar (σ.1 i)) (am_ar (σ.1 i)).length) := rfl
                  have hsp : o_push σ (nI i) (nI k) = (nI (pu_ar (on_of (σ.1 i)) (am_ar (σ.1 i)) (am_ar (σ.1 i)).length).length, o_set σ k (am_n (σ.1 i), pu_st (σ.1 i) (on_of (σ.1 i)), pu_es (σ.1 i) (on_of (σ.1 i)) (am_n (σ.1 i)), pu_ar (on_of (σ.1 i)) (am_ar (σ.1 i)) (am_ar (σ.1 i)).length)) := by
                    unfold o_push
                    simp only [hi, hk]
                    rw [hmk]
                    exact o_keep_y hfit
                  rw [hsp]
                  exact ⟨F7, L7, _, rfl, rs_set hf7 hM7 (mo_w_rs hw1 rfl rfl hr), rfl⟩
                · refine gx_if_eq C 309 dd_Mo_push_297 (fun h297 => ?_) (fun h297 => absurd rfl h297)
                  refine gx_bipush (v := -2) C dd_Mo_push_309 (kk := ?_)
                  refine gx_iret C dd_Mo_push_311 ?_
                  have hmk : (some (pu_mk (σ.1 i) (on_of (σ.1 i))) : Option am_T) = some (am_n (σ.1 i), pu_st (σ.1 i) (on_of (σ.1 i)), pu_es (σ.1 i) (on_of (σ.1 i)) (am_n (σ.1 i)), pu_ar (on_of (σ.1 i)) (am_ar (σ.1 i)) (am_ar (σ.1 i)).length) := rfl
                  have hsp : o_push σ (nI i) (nI k) = (-2, σ) := by
                    unfold o_push
                    simp only [hi, hk]
                    rw [hmk]
                    exact o_keep_n hfit
                  rw [hsp]
                  exact ⟨_, _, _, rfl, mo_w_rs hw1 rfl rfl hr, rfl⟩
              | succ m ihq =>
                intro q L1 hq0 hM1 hw1 hmn
                refine gx_iload_n C 0 dd_Mo_push_232 (kk := ?_)
                refine gx_aload_n C 1 dd_Mo_push_233 (kk := ?_)
                refine mo_get C fd_Mo_7 dd_Mo_push_234 (kk := ?_)
                refine gx_iload_n C 2 dd_Mo_push_237 (kk := ?_)
                refine mo_l44 C dd_Mo_push_238 (by omega) (kk := ?_)
                refine gx_topi _ (mo_w_is hw1 hi4 (hM i hi4)).1 ?_
                refine gx_icmp_ge C 292 dd_Mo_push_239 (fun h239 => absurd h239 (nI_ge (by omega) (by omega))) (fun h239 => ?_)
                have heq0 := (mo_w_is hw1 hi4 (hM i hi4)).2.2.1 q (by omega)
                rcases heq : am_en (σ.1 i) q with _ | e
                · rw [heq] at heq0
                  refine gx_aload_n C 1 dd_Mo_push_242 (kk := ?_)
                  refine mo_get C fd_Mo_20 dd_Mo_push_243 (kk := ?_)
                  refine gx_bipush (v := nI 16) C dd_Mo_push_246 (kk := ?_)
                  refine gx_iload_n C 2 dd_Mo_push_248 (kk := ?_)
                  refine gx_imul C dd_Mo_push_249 (kk := ?_)
                  refine gx_topi _ (pk_mul _ _) ?_
                  refine gx_iload_n C 0 dd_Mo_push_250 (kk := ?_)
                  refine gx_iadd C dd_Mo_push_251 (kk := ?_)
                  refine gx_topi _ (nI_add _ _) ?_
                  refine mo_l47 C dd_Mo_push_252 (by omega) (kk := ?_)
                  refine gx_topl _ heq0 ?_
                  refine gx_lstore C _ dd_Mo_push_253 (kk := ?_)
                  refine gx_aload_n C 2 dd_Mo_push_255 (kk := ?_)
                  refine mo_get C fd_Mo_20 dd_Mo_push_256 (kk := ?_)
                  refine gx_bipush (v := nI 64) C dd_Mo_push_259 (kk := ?_)
                  refine gx_iload_n C 1 dd_Mo_push_261 (kk := ?_)
                  refine gx_iadd C dd_Mo_push_262 (kk := ?_)
                  refine gx_topi _ (nI_add _ _) ?_
                  refine gx_lload C 0 dd_Mo_push_263 (kk := ?_)
                  refine gx_lconst (v := lN 0) C dd_Mo_push_265 (kk := ?_)
                  refine gx_lcmp C dd_Mo_push_266 (kk := ?_)
                  refine gx_if_ge C 276 dd_Mo_push_267 (fun h267 => absurd h267 (by decide)) (fun h267 => ?_)
                  refine gx_ldc2 C dd_Mo_push_270 kc_Mo_79 (kk := ?_)
                  refine gx_goto C 285 dd_Mo_push_273 (kk := ?_)
                  refine mo_s47 C dd_Mo_push_285 (by omega) (kk := fun L285 hL285 => ?_)
                  refine gx_iinc C 1 (nI (q + 1)) _ dd_Mo_push_286 (nI_1 _) (kk := ?_)
                  refine gx_goto C 232 dd_Mo_push_289 (kk := ?_)
                  refine gx_loc [0, 2, 3, 4] ?_
                  have hM6 := mo_is_en (s := 4) (q := q) (o := none) hL285 rfl hM1
                  refine ihq (q + 1) L285 (by omega) ?_ (mo_w_tr hw1 (mo_w_fr (mo_fr_47 (s := 4) (q := q) (by omega) hL285))) (mn_ok_k rfl (by rw [hL285, gm_un (by decide)]) hmn)
                  rw [pu_es_n heq]
                  rw [show va_up (pu_es (σ.1 i) (on_of (σ.1 i)) q) q none = pu_es (σ.1 i) (on_of (σ.1 i)) q from va_up_id _ _ (if_neg (by omega))] at hM6
                  exact hM6
                · rw [heq] at heq0
                  have heb := hok.1.2.2.2.1 _ _ heq
                  obtain ⟨c, hcq, hce⟩ := pu_ne (on_of_fix hok) (by omega) heq
                  have hl0 := (hmn q (by omega)).1
                  rw [hcq] at hl0
                  refine gx_aload_n C 1 dd_Mo_push_242 (kk := ?_)
                  refine mo_get C fd_Mo_20 dd_Mo_push_243 (kk := ?_)
                  refine gx_bipush (v := nI 16) C dd_Mo_push_246 (kk := ?_)
                  refine gx_iload_n C 2 dd_Mo_push_248 (kk := ?_)
                  refine gx_imul C dd_Mo_push_249 (kk := ?_)
                  refine gx_topi _ (pk_mul _ _) ?_
                  refine gx_iload_n C 0 dd_Mo_push_250 (kk := ?_)
                  refine gx_iadd C dd_Mo_push_251 (kk := ?_)
                  refine gx_topi _ (nI_add _ _) ?_
                  refine mo_l47 C dd_Mo_push_252 (by omega) (kk := ?_)
                  refine gx_topl _ heq0 ?_
                  refine gx_lstore C _ dd_Mo_push_253 (kk := ?_)
                  refine gx_aload_n C 2 dd_Mo_push_255 (kk := ?_)
                  refine mo_get C fd_Mo_20 dd_Mo_push_256 (kk := ?_)
                  refine gx_bipush (v := nI 64) C dd_Mo_push_259 (kk := ?_)
                  refine gx_iload_n C 1 dd_Mo_push_261 (kk := ?_)
                  refine gx_iadd C dd_Mo_push_262 (kk := ?_)
                  refine gx_topi _ (nI_add _ _) ?_
                  refine gx_lload C 0 dd_Mo_push_263 (kk := ?_)
                  refine gx_lconst (v := lN 0) C dd_Mo_push_265 (kk := ?_)
                  refine gx_lcmp C dd_Mo_push_266 (kk := ?_)
                  refine gx_if_ge C 276 dd_Mo_push_267 (fun h267 => ?_) (fun h267 => absurd (lc_ge.mpr (by show lN 0 ≤ lN e; rw [pk_lLE (by decide) (by omega)]; omega)) h267)
                  refine gx_lload C 0 dd_Mo_push_276 (kk := ?_)
                  refine gx_aload_n C 2 dd_Mo_push_278 (kk := ?_)
                  refine mo_get C fd_Mo_50 dd_Mo_push_279 (kk := ?_)
                  refine gx_iload_n C 1 dd_Mo_push_282 (kk := ?_)
                  refine mo_l57 C dd_Mo_push_283 (by omega) (kk := ?_)
                  refine gx_topl (lN (c / 32)) hl0 ?_
                  refine gx_lsub C dd_Mo_push_284 (kk := ?_)
                  refine gx_topl (lN (e - c / 32)) (lN_sub hce) ?_
                  refine mo_s47 C dd_Mo_push_285 (by omega) (kk := fun L285 hL285 => ?_)
                  refine gx_iinc C 1 (nI (q + 1)) _ dd_Mo_push_286 (nI_1 _) (kk := ?_)
                  refine gx_goto C 232 dd_Mo_push_289 (kk := ?_)
                  refine gx_loc [0, 2, 3, 4] ?_
                  have hM6 := mo_is_en (s := 4) (q := q) (o := some (e - c / 32)) hL285 rfl hM1
                  refine ihq (q + 1) L285 (by omega) ?_ (mo_w_tr hw1 (mo_w_fr (mo_fr_47 (s := 4) (q := q) (by omega) hL285))) (mn_ok_k rfl (by rw [hL285, gm_un (by decide)]) hmn)
                  rw [← pu_es_y heq, hcq]
                  exact hM6
            exact ends (am_n (σ.1 i)) 0 L1 (by omega) (by rw [pu_es_0]; exact hM1) hw1 hmn
          | succ m ihj =>
            intro j F1 L1 hj hM1 hw1 hmn hso hab
            obtain ⟨x, hx⟩ : ∃ x, (am_ar (σ.1 i))[j]? = some x := ⟨_, List.getElem?_eq_getElem (by omega)⟩
            have hxa := (mo_w_is hw1 hi4 (hM i hi4)).2.2.2.2.1 j x hx
            have hxm := List.mem_of_getElem? hx
            have hxb := hok.1.2.2.1 x hxm
            refine gx_iload_n C 0 dd_Mo_push_112 (kk := ?_)
            refine gx_bipush (v := nI 65) C dd_Mo_push_113 (kk := ?_)
            refine gx_iload_n C 2 dd_Mo_push_115 (kk := ?_)
            refine gx_imul C dd_Mo_push_116 (kk := ?_)
            refine gx_topi _ (pk_mul _ _) ?_
            refine gx_aload_n C 1 dd_Mo_push_117 (kk := ?_)
            refine mo_get C fd_Mo_23 dd_Mo_push_118 (kk := ?_)
            refine gx_iload_n C 2 dd_Mo_push_121 (kk := ?_)
            refine mo_l48 C dd_Mo_push_122 (by omega) (kk := ?_)
            refine gx_topi _ (mo_w_is hw1 hi4 (hM i hi4)).2.2.2.1 ?_
            refine gx_iadd C dd_Mo_push_123 (kk := ?_)
            refine gx_topi _ (nI_add _ _) ?_
            refine gx_icmp_ge C 230 dd_Mo_push_124 (fun h124 => absurd h124 (nI_ge (by omega) (by omega))) (fun h124 => ?_)
            have hf0 := (hmn (x.1 / 1024) (by omega)).1
            rcases hcf : (on_of (σ.1 i)) (x.1 / 1024) with _ | c
            · rw [hcf] at hf0
              have hpi : pu_i (on_of (σ.1 i)) x = none := by
                unfold pu_i
                rw [hcf]
              refine gx_aload_n C 1 dd_Mo_push_127 (kk := ?_)
              refine mo_get C fd_Mo_50 dd_Mo_push_128 (kk := ?_)
              refine gx_aload_n C 1 dd_Mo_push_131 (kk := ?_)
              refine mo_get C fd_Mo_26 dd_Mo_push_132 (kk := ?_)
              refine gx_iload_n C 0 dd_Mo_push_135 (kk := ?_)
              refine mo_l49 C dd_Mo_push_136 (by omega) (kk := ?_)
              refine gx_topi _ hxa.1 ?_
              refine mo_l57 C dd_Mo_push_137 (by omega) (kk := ?_)
              refine gx_topl (4000000000000000000) hf0 ?_
              refine gx_ldc2 C dd_Mo_push_138 kc_Mo_129 (kk := ?_)
              refine gx_lcmp C dd_Mo_push_141 (kk := ?_)
              refine gx_if_ge C 224 dd_Mo_push_142 (fun h142 => ?_) (fun h142 => absurd (by decide) h142)
              refine gx_iinc C 0 (nI (65 * i + (j + 1))) _ dd_Mo_push_224 (nI_1 _) (kk := ?_)
              refine gx_goto C 112 dd_Mo_push_227 (kk := ?_)
              exact ihj (j + 1) F1 L1 (by omega) (by rw [pu_ar_n hx hpi]; exact hM1) hw1 hmn (by rw [pu_ar_n hx hpi]; exact hso) (by rw [pu_ar_n hx hpi]; exact hab)
            · rw [hcf] at hf0
              have hcb := ((hmn (x.1 / 1024) (by omega)).2 c hcf).2
              refine gx_aload_n C 1 dd_Mo_push_127 (kk := ?_)
              refine mo_get C fd_Mo_50 dd_Mo_push_128 (kk := ?_)
              refine gx_aload_n C 1 dd_Mo_push_131 (kk := ?_)
              refine mo_get C fd_Mo_26 dd_Mo_push_132 (kk := ?_)
              refine gx_iload_n C 0 dd_Mo_push_135 (kk := ?_)
              refine mo_l49 C dd_Mo_push_136 (by omega) (kk := ?_)
              refine gx_topi _ hxa.1 ?_
              refine mo_l57 C dd_Mo_push_137 (by omega) (kk := ?_)
              refine gx_topl (lN (c / 32)) hf0 ?_
              refine gx_ldc2 C dd_Mo_push_138 kc_Mo_129 (kk := ?_)
              refine gx_lcmp C dd_Mo_push_141 (kk := ?_)
              refine gx_if_ge C 224 dd_Mo_push_142 (fun h142 => absurd (lc_ge.mp h142) (mf_fl (by omega))) (fun h142 => ?_)
              have ht0 := (hmn (x.1 % 16) (by omega)).1
              rcases hct : (on_of (σ.1 i)) (x.1 % 16) with _ | d
              · rw [hct] at ht0
                have hpi : pu_i (on_of (σ.1 i)) x = none := by
                  unfold pu_i
                  rw [hcf, hct]
                refine gx_aload_n C 1 dd_Mo_push_145 (kk := ?_)
                refine mo_get C fd_Mo_50 dd_Mo_push_146 (kk := ?_)
                refine gx_aload_n C 1 dd_Mo_push_149 (kk := ?_)
                refine mo_get C fd_Mo_29 dd_Mo_push_150 (kk := ?_)
                refine gx_iload_n C 0 dd_Mo_push_153 (kk := ?_)
                refine mo_l50 C dd_Mo_push_154 (by omega) (kk := ?_)
                refine gx_topi _ hxa.2.1 ?_
                refine mo_l57 C dd_Mo_push_155 (by omega) (kk := ?_)
                refine gx_topl (4000000000000000000) ht0 ?_
                refine gx_ldc2 C dd_Mo_push_156 kc_Mo_129 (kk := ?_)
                refine gx_lcmp C dd_Mo_push_159 (kk := ?_)
                refine gx_if_ge C 224 dd_Mo_push_160 (fun h160 => ?_) (fun h160 => absurd (by decide) h160)
                refine gx_iinc C 0 (nI (65 * i + (j + 1))) _ dd_Mo_push_224 (nI_1 _) (kk := ?_)
                refine gx_goto C 112 dd_Mo_push_227 (kk := ?_)
                exact ihj (j + 1) F1 L1 (by omega) (by rw [pu_ar_n hx hpi]; exact hM1) hw1 hmn (by rw [pu_ar_n hx hpi]; exact hso) (by rw [pu_ar_n hx hpi]; exact hab)
              · rw [hct] at ht0
                have hdb := ((hmn (x.1 % 16) (by omega)).2 d hct).2
                have hnn := pu_nn hok (on_of_fix hok) hxm hcf hct
                have hpi : pu_i (on_of (σ.1 i)) x = some (x.1, x.2 + d / 32 - c / 32) := by
                  unfold pu_i
                  rw [hcf, hct]
                refine gx_aload_n C 1 dd_Mo_push_145 (kk := ?_)
                refine mo_get C fd_Mo_50 dd_Mo_push_146 (kk := ?_)
                refine gx_aload_n C 1 dd_Mo_push_149 (kk := ?_)
                refine mo_get C fd_Mo_29 dd_Mo_push_150 (kk := ?_)
                refine gx_iload_n C 0 dd_Mo_push_153 (kk := ?_)
                refine mo_l50 C dd_Mo_push_154 (by omega) (kk := ?_)
                refine gx_topi _ hxa.2.1 ?_
                refine mo_l57 C dd_Mo_push_155 (by omega) (kk := ?_)
                refine gx_topl (lN (d / 32)) ht0 ?_
                refine gx_ldc2 C dd_Mo_push_156 kc_Mo_129 (kk := ?_)
                refine gx_lcmp C dd_Mo_push_159 (kk := ?_)
                refine gx_if_ge C 224 dd_Mo_push_160 (fun h160 => absurd (lc_ge.mp h160) (mf_fl (by omega))) (fun h160 => ?_)
                refine gx_aload_n C 1 dd_Mo_push_163 (kk := ?_)
                refine gx_iconst (v := nI 4) C dd_Mo_push_164 (kk := ?_)
                refine gx_aload_n C 1 dd_Mo_push_165 (kk := ?_)
                refine mo_get C fd_Mo_26 dd_Mo_push_166 (kk := ?_)
                refine gx_iload_n C 0 dd_Mo_push_169 (kk := ?_)
                refine mo_l49 C dd_Mo_push_170 (by omega) (kk := ?_)
                refine gx_topi _ hxa.1 ?_
                refine gx_aload_n C 1 dd_Mo_push_171 (kk := ?_)
                refine mo_get C fd_Mo_29 dd_Mo_push_172 (kk := ?_)
                refine gx_iload_n C 0 dd_Mo_push_175 (kk := ?_)
                refine mo_l50 C dd_Mo_push_176 (by omega) (kk := ?_)
                refine gx_topi _ hxa.2.1 ?_
                refine gx_aload_n C 1 dd_Mo_push_177 (kk := ?_)
                refine mo_get C fd_Mo_32 dd_Mo_push_178 (kk := ?_)
                refine gx_iload_n C 0 dd_Mo_push_181 (kk := ?_)
                refine mo_l51 C dd_Mo_push_182 (by omega) (kk := ?_)
                refine gx_topi _ hxa.2.2.1 ?_
                refine gx_aload_n C 1 dd_Mo_push_183 (kk := ?_)
                refine mo_get C fd_Mo_35 dd_Mo_push_184 (kk := ?_)
                refine gx_iload_n C 0 dd_Mo_push_187 (kk := ?_)
                refine mo_l52 C dd_Mo_push_188 (by omega) (kk := ?_)
                refine gx_topi _ hxa.2.2.2.1 ?_
                refine gx_aload_n C 1 dd_Mo_push_189 (kk := ?_)
                refine mo_get C fd_Mo_38 dd_Mo_push_190 (kk := ?_)
                refine gx_iload_n C 0 dd_Mo_push_193 (kk := ?_)
                refine mo_l53 C dd_Mo_push_194 (by omega) (kk := ?_)
                refine gx_topl _ hxa.2.2.2.2 ?_
                refine gx_aload_n C 1 dd_Mo_push_195 (kk := ?_)
                refine mo_get C fd_Mo_50 dd_Mo_push_196 (kk := ?_)
                refine gx_aload_n C 1 dd_Mo_push_199 (kk := ?_)
                refine mo_get C fd_Mo_29 dd_Mo_push_200 (kk := ?_)
                refine gx_iload_n C 0 dd_Mo_push_203 (kk := ?_)
                refine mo_l50 C dd_Mo_push_204 (by omega) (kk := ?_)
                refine gx_topi _ hxa.2.1 ?_
                refine mo_l57 C dd_Mo_push_205 (by omega) (kk := ?_)
                refine gx_topl (lN (d / 32)) ht0 ?_
                refine gx_ladd C dd_Mo_push_206 (kk := ?_)
                refine gx_topl _ (lN_add _ _) ?_
                refine gx_aload_n C 1 dd_Mo_push_207 (kk := ?_)
                refine mo_get C fd_Mo_50 dd_Mo_push_208 (kk := ?_)
                refine gx_aload_n C 1 dd_Mo_push_211 (kk := ?_)
                refine mo_get C fd_Mo_26 dd_Mo_push_212 (kk := ?_)
                refine gx_iload_n C 0 dd_Mo_push_215 (kk := ?_)
                refine mo_l49 C dd_Mo_push_216 (by omega) (kk := ?_)
                refine gx_topi _ hxa.1 ?_
                refine mo_l57 C dd_Mo_push_217 (by omega) (kk := ?_)
                refine gx_topl (lN (c / 32)) hf0 ?_
                refine gx_lsub C dd_Mo_push_218 (kk := ?_)
                refine gx_topl (lN (x.2 + d / 32 - c / 32)) (lN_sub hnn) ?_
                refine gx_callV C (ct_Mo_put (gx_l K) D dA ad h F1 L1 S (s := 4) (f := x.1 / 1024) (t := x.1 % 16) (i := x.1 / 128 % 8) (o := x.1 / 16 % 8) (x0 := x.2 + d / 32 - c / 32) (B := 35184372088832) (a := (am_n (σ.1 i), pu_st (σ.1 i) (on_of (σ.1 i)), (fun _ => none), pu_ar (on_of (σ.1 i)) (am_ar (σ.1 i)) j)) (by decide) hM1 hso (fun z hz => (hab z hz).1) (fun z hz => (hab z hz).2) (by decide) (by omega) (by omega) (by omega) (by omega) (by omega)) me_Mo_put ml_Mo_99 mn_Mo_put _ (gx_w_at (by decide) mo_h_43) rfl dd_Mo_push_219 (kk := fun v w hq => ?_)
                rw [show pr_k (x.1 / 1024) (x.1 / 128 % 8) (x.1 / 16 % 8) (x.1 % 16) = x.1 by unfold pr_k; omega] at hq
                rcases hq with ⟨hr3, rfl, F3, L3, rfl, hM3, hf3⟩ | ⟨hr3, rfl, rfl⟩
                · refine gx_istore C _ dd_Mo_push_222 (kk := ?_)
                  refine gx_iinc C 1 (nI (65 * i + (j + 1))) _ dd_Mo_push_224 (nI_1 _) (kk := ?_)
                  refine gx_goto C 112 dd_Mo_push_227 (kk := ?_)
                  refine gx_loc [0, 2, 3, 4] ?_
                  exact ihj (j + 1) F3 L3 (by omega) (by rw [pu_ar_y hx hpi, mk_br, if_pos hr3]; exact hM3) (mo_w_tr hw1 (mo_w_fr hf3)) (mn_ok_k (hf3.2.2.2 58 (by decide)).1 (hf3.2.2.2 57 (by decide)).2 hmn) (by rw [pu_ar_y hx hpi]; exact mb_brs hso) (by rw [pu_ar_y hx hpi]; exact mb_brb hab (by omega) (by show x.2 + d / 32 - c / 32 < _; omega))
                · refine gx_istore C _ dd_Mo_push_222 (kk := ?_)
                  refine gx_iinc C 1 (nI (65 * i + (j + 1))) _ dd_Mo_push_224 (nI_1 _) (kk := ?_)
                  refine gx_goto C 112 dd_Mo_push_227 (kk := ?_)
                  refine gx_loc [0, 2, 3, 4] ?_
                  exact ihj (j + 1) F1 L1 (by omega) (by rw [pu_ar_y hx hpi, mk_br, if_neg (by rw [hr3]; decide)]; exact hM1) hw1 hmn (by rw [pu_ar_y hx hpi]; exact mb_brs hso) (by rw [pu_ar_y hx hpi]; exact mb_brb hab (by omega) (by show x.2 + d / 32 - c / 32 < _; omega))
        exact arcs (am_ar (σ.1 i)).length 0 F43 L55 (by omega) hM6 hw5 hmn5 List.Pairwise.nil (fun x hx => absurd hx List.not_mem_nil)
      · rw [hst] at hsq
        have hxab := hok.1.2.2.2.2 xa hst
        refine gx_aload_n C 0 dd_Mo_push_56 (kk := ?_)
        refine mo_get C fd_Mo_13 dd_Mo_push_57 (kk := ?_)
        refine gx_iload_n C 1 dd_Mo_push_60 (kk := ?_)
        refine mo_l45 C dd_Mo_push_61 (by omega) (kk := ?_)
        refine gx_topi _ hsq.1 ?_
        refine gx_if_lt C 107 dd_Mo_push_62 (fun h62 => absurd h62 (nI_pos (by omega))) (fun h62 => ?_)
        have hs0 := (hmn5 xa.1 hxab.1).1
        rcases hls : (on_of (σ.1 i)) xa.1 with _ | c0
        · rw [hls] at hs0
          refine gx_aload_n C 0 dd_Mo_push_65 (kk := ?_)
          refine mo_get C fd_Mo_50 dd_Mo_push_66 (kk := ?_)
          refine gx_aload_n C 0 dd_Mo_push_69 (kk := ?_)
          refine mo_get C fd_Mo_13 dd_Mo_push_70 (kk := ?_)
          refine gx_iload_n C 1 dd_Mo_push_73 (kk := ?_)
          refine mo_l45 C dd_Mo_push_74 (by omega) (kk := ?_)
          refine gx_topi _ hsq.1 ?_
          refine mo_l57 C dd_Mo_push_75 (by omega) (kk := ?_)
          refine gx_topl (4000000000000000000) hs0 ?_
          refine gx_ldc2 C dd_Mo_push_76 kc_Mo_129 (kk := ?_)
          refine gx_lcmp C dd_Mo_push_79 (kk := ?_)
          refine gx_if_ge C 107 dd_Mo_push_80 (fun h80 => ?_) (fun h80 => absurd (by decide) h80)
          have hps : pu_st (σ.1 i) (on_of (σ.1 i)) = am_st (σ.1 i) := by
            unfold pu_st
            rw [hst]
            show some (xa.1, xa.2 + pu_w ((on_of (σ.1 i)) xa.1)) = _
            rw [hls]
            rfl
          have hM6 : mo_is F43 L55 4 (am_n (σ.1 i), pu_st (σ.1 i) (on_of (σ.1 i)), (fun _ => none), []) := by
            rw [hps]
            exact hM5
          refine gx_bipush (v := nI 65) C dd_Mo_push_107 (kk := ?_)
          refine gx_iload_n C 1 dd_Mo_push_109 (kk := ?_)
          refine gx_imul C dd_Mo_push_110 (kk := ?_)
          refine gx_topi _ (pk_mul _ _) ?_
          refine gx_istore_n C _ dd_Mo_push_111 (kk := ?_)
          have arcs : ∀ m j F1 L1, j + m = (am_ar (σ.1 i)).length → mo_is F1 L1 4 (am_n (σ.1 i), pu_st (σ.1 i) (on_of (σ.1 i)), (fun _ => none), pu_ar (on_of (σ.1 i)) (am_ar (σ.1 i)) j) → mo_w F L F1 L1 → mn_ok F1 L1 (σ.1 i) → am_so (pu_ar (on_of (σ.1 i)) (am_ar (σ.1 i)) j) → (∀ x ∈ (pu_ar (on_of (σ.1 i)) (am_ar (σ.1 i)) j), x.1 < 16384 ∧ x.2 < 35184372088832) → gx_G K D 6 0 0 112 [(3, .int (nI (65 * i + j))), (0, .ref (ad 43)), (1, .int (nI i)), (2, .int (nI k))] [] (gx_w ad (mo_h dA ad h F1 L1 S)) (gx_Z K D dA 0 0 (fun v w => ∃ F2 L2 S2, w = (gx_w ad (mo_h dA ad h F2 L2 S2)) ∧ rs F2 L2 S2 (o_push σ (nI i) (nI k)).2 ∧ v = some (.int (o_push σ (nI i) (nI k)).1))) := by
            intro m
            induction m with
            | zero =>
              intro j F1 L1 hj hM1 hw1 hmn hso hab
              refine gx_iload_n C 0 dd_Mo_push_112 (kk := ?_)
              refine gx_bipush (v := nI 65) C dd_Mo_push_113 (kk := ?_)
              refine gx_iload_n C 2 dd_Mo_push_115 (kk := ?_)
              refine gx_imul C dd_Mo_push_116 (kk := ?_)
              refine gx_topi _ (pk_mul _ _) ?_
              refine gx_aload_n C 1 dd_Mo_push_117 (kk := ?_)
              refine mo_get C fd_Mo_23 dd_Mo_push_118 (kk := ?_)
              refine gx_iload_n C 2 dd_Mo_push_121 (kk := ?_)
              refine mo_l48 C dd_Mo_push_122 (by omega) (kk := ?_)
              refine gx_topi _ (mo_w_is hw1 hi4 (hM i hi4)).2.2.2.1 ?_
              refine gx_iadd C dd_Mo_push_123 (kk := ?_)
              refine gx_topi _ (nI_add _ _) ?_
              refine gx_icmp_ge C 230 dd_Mo_push_124 (fun h124 => ?_) (fun h124 => absurd (nI_le (a := 65 * i + (am_ar (σ.1 i)).length) (b := 65 * i + j) (by omega) (by omega)) h124)
              refine gx_iconst (v := nI 0) C dd_Mo_push_230 (kk := ?_)
              refine gx_istore_n C _ dd_Mo_push_231 (kk := ?_)
              obtain rfl : j = (am_ar (σ.1 i)).length := by omega
              have ends : ∀ m q L1, q + m = am_n (σ.1 i) → mo_is F1 L1 4 (am_n (σ.1 i), pu_st (σ.1 i) (on_of (σ.1 i)), pu_es (σ.1 i) (on_of (σ.1 i)) q, pu_ar (on_of (σ.1 i)) (am_ar (σ.1 i)) (am_ar (σ.1 i)).length) → mo_w F L F1 L1 → mn_ok F1 L1 (σ.1 i) → gx_G K D 6 0 0 232 [(3, .int (nI q)), (0, .ref (ad 43)), (1, .int (nI i)), (2, .int (nI k))] [] (gx_w ad (mo_h dA ad h F1 L1 S)) (gx_Z K D dA 0 0 (fun v w => ∃ F2 L2 S2, w = (gx_w ad (mo_h dA ad h F2 L2 S2)) ∧ rs F2 L2 S2 (o_push σ (nI i) (nI k)).2 ∧ v = some (.int (o_push σ (nI i) (nI k)).1))) := by
                intro m
                induction m with
                | zero =>
                  intro q L1 hq0 hM1 hw1 hmn
                  refine gx_iload_n C 0 dd_Mo_push_232 (kk := ?_)
                  refine gx_aload_n C 1 dd_Mo_push_233 (kk := ?_)
                  refine mo_get C fd_Mo_7 dd_Mo_push_234 (kk := ?_)
                  refine gx_iload_n C 2 dd_Mo_push_237 (kk := ?_)
                  refine mo_l44 C dd_Mo_push_238 (by omega) (kk := ?_)
                  refine gx_topi _ (mo_w_is hw1 hi4 (hM i hi4)).1 ?_
                  refine gx_icmp_ge C 292 dd_Mo_push_239 (fun h239 => ?_) (fun h239 => absurd (nI_le (a := am_n (σ.1 i)) (b := q) (by omega) (by omega)) h239)
                  have hM9 : mo_is F1 L1 4 (am_n (σ.1 i), pu_st (σ.1 i) (on_of (σ.1 i)), pu_es (σ.1 i) (on_of (σ.1 i)) (am_n (σ.1 i)), pu_ar (on_of (σ.1 i)) (am_ar (σ.1 i)) (am_ar (σ.1 i)).length) := by
                    rw [show q = am_n (σ.1 i) by omega] at hM1
                    exact hM1
                  have hsb9 : ∀ x, pu_st (σ.1 i) (on_of (σ.1 i)) = some x → x.1 < 16 ∧ x.2 < 35184372088832 := (fun x hx => by
                    have hx : (am_st (σ.1 i)).map (fun x => (x.1, x.2 + pu_w ((on_of (σ.1 i)) x.1))) = some x := hx
                    rcases hst2 : am_st (σ.1 i) with _ | xa
                    · rw [hst2] at hx; cases hx
                    · rw [hst2] at hx
                      have hx : some (xa.1, xa.2 + pu_w ((on_of (σ.1 i)) xa.1)) = some x := hx
                      cases hx
                      have hxb := hok.1.2.2.2.2 xa hst2
                      refine ⟨hxb.1, ?_⟩
                      show xa.2 + pu_w ((on_of (σ.1 i)) xa.1) < _
                      rcases hcx : (on_of (σ.1 i)) xa.1 with _ | cx
                      · show xa.2 + 0 < _; omega
                      · have := ((hmn xa.1 hxb.1).2 cx hcx).2
                        show xa.2 + cx / 32 < _
                        omega)
                  have heb9 : ∀ q e, pu_es (σ.1 i) (on_of (σ.1 i)) (am_n (σ.1 i)) q = some e → e < 35184372088832 := (fun q e he => by
                    unfold pu_es at he
                    split at he
                    · rcases hz : am_en (σ.1 i) q with _ | e0
                      · rw [hz] at he; cases he
                      · rw [hz] at he
                        have he : some (e0 - pu_w ((on_of (σ.1 i)) q)) = some e := he
                        cases he
                        have := hok.1.2.2.2.1 _ _ hz
                        omega
                    · cases he)
                  refine gx_aload_n C 1 dd_Mo_push_292 (kk := ?_)
                  refine gx_iload_n C 3 dd_Mo_push_293 (kk := ?_)
                  refine gx_callV C (ct_Mo_keep (gx_l K) D dA ad h F1 L1 S (c := k) (B := 35184372088832) (b := (am_n (σ.1 i), pu_st (σ.1 i) (on_of (σ.1 i)), pu_es (σ.1 i) (on_of (σ.1 i)) (am_n (σ.1 i)), pu_ar (on_of (σ.1 i)) (am_ar (σ.1 i)) (am_ar (σ.1 i)).length)) (by omega) hM9 hn16 (by decide) (fun x hx => (hab x hx).2) heb9 hsb9) me_Mo_keep ml_Mo_126 mn_Mo_keep _ (gx_w_at (by decide) mo_h_43) rfl dd_Mo_push_294 (kk := fun v w hq => ?_)
                  rcases hq with ⟨hfit, rfl, F7, L7, rfl, hM7, hf7⟩ | ⟨hfit, rfl, rfl⟩
                  · refine gx_if_eq C 309 dd_Mo_push_297 (fun h297 => absurd h297 (by decide)) (fun h297 => ?_)
                    refine gx_aload_n C 1 dd_Mo_push_300 (kk := ?_)
                    refine mo_get C fd_Mo_23 dd_Mo_push_301 (kk := ?_)
                    refine gx_iload_n C 3 dd_Mo_push_304 (kk := ?_)
                    refine mo_l48 C dd_Mo_push_305 (by omega) (kk := ?_)
                    refine gx_topi (nI (pu_ar (on_of (σ.1 i)) (am_ar (σ.1 i)) (am_ar (σ.1 i)).length).length) hM7.2.2.2.1 ?_
                    refine gx_goto C 311 dd_Mo_push_306 (kk := ?_)
                    refine gx_iret C dd_Mo_push_311 ?_
                    have hmk : (some (pu_mk (σ.1 i) (on_of (σ.1 i))) : Option am_T) = some (am_n (σ.1 i), pu_st (σ.1 i) (on_of (σ.1 i)), pu_es (σ.1 i) (on_of (σ.1 i)) (am_n (σ.1 i)), pu_ar (on_of (σ.1 i)) (am_ar (σ.1 i)) (am_ar (σ.1 i)).length) := rfl
                    have hsp : o_push σ (nI i) (nI k) = (nI (pu_ar (on_of (σ.1 i)) (am_ar (σ.1 i)) (am_ar (σ.1 i)).length).length, o_set σ k (am_n (σ.1 i), pu_st (σ.1 i) (on_of (σ.1 i)), pu_es (σ.1 i) (on_of (σ.1 i)) (am_n (σ.1 i)), pu_ar (on_of (σ.1 i)) (am_ar (σ.1 i)) (am_ar (σ.1 i)).length)) := by
                      unfold o_push
                      simp only [hi, hk]
                      rw [hmk]
                      exact o_keep_y hfit
                    rw [hsp]
                    exact ⟨F7, L7, _, rfl, rs_set hf7 hM7 (mo_w_rs hw1 rfl rfl hr), rfl⟩
                  · refine gx_if_eq C 309 dd_Mo_push_297 (fun h297 => ?_) (fun h297 => absurd rfl h297)
                    refine gx_bipush (v := -2) C dd_Mo_push_309 (kk := ?_)
                    refine gx_iret C dd_Mo_push_311 ?_
                    have hmk : (some (pu_mk (σ.1 i) (on_of (σ.1 i))) : Option am_T) = some (am_n (σ.1 i), pu_st (σ.1 i) (on_of (σ.1 i)), pu_es (σ.1 i) (on_of (σ.1 i)) (am_n (σ.1 i)), pu_ar (on_of (σ.1 i)) (am_ar (σ.1 i)) (am_ar (σ.1 i)).length) := rfl
                    have hsp : o_push σ (nI i) (nI k) = (-2, σ) := by
                      unfold o_push
                      simp only [hi, hk]
                      rw [hmk]
                      exact o_keep_n hfit
                    rw [hsp]
                    exact ⟨_, _, _, rfl, mo_w_rs hw1 rfl rfl hr, rfl⟩
                | succ m ihq =>
                  intro q L1 hq0 hM1 hw1 hmn
                  refine gx_iload_n C 0 dd_Mo_push_232 (kk := ?_)
                  refine gx_aload_n C 1 dd_Mo_push_233 (kk := ?_)
                  refine mo_get C fd_Mo_7 dd_Mo_push_234 (kk := ?_)
                  refine gx_iload_n C 2 dd_Mo_push_237 (kk := ?_)
                  refine mo_l44 C dd_Mo_push_238 (by omega) (kk := ?_)
                  refine gx_topi _ (mo_w_is hw1 hi4 (hM i hi4)).1 ?_
                  refine gx_icmp_ge C 292 dd_Mo_push_239 (fun h239 => absurd h239 (nI_ge (by omega) (by omega))) (fun h239 => ?_)
                  have heq0 := (mo_w_is hw1 hi4 (hM i hi4)).2.2.1 q (by omega)
                  rcases heq : am_en (σ.1 i) q with _ | e
                  · rw [heq] at heq0
                    refine gx_aload_n C 1 dd_Mo_push_242 (kk := ?_)
                    refine mo_get C fd_Mo_20 dd_Mo_push_243 (kk := ?_)
                    refine gx_bipush (v := nI 16) C dd_Mo_push_246 (kk := ?_)
                    refine gx_iload_n C 2 dd_Mo_push_248 (kk := ?_)
                    refine gx_imul C dd_Mo_push_249 (kk := ?_)
                    refine gx_topi _ (pk_mul _ _) ?_
                    refine gx_iload_n C 0 dd_Mo_push_250 (kk := ?_)
                    refine gx_iadd C dd_Mo_push_251 (kk := ?_)
                    refine gx_topi _ (nI_add _ _) ?_
                    refine mo_l47 C dd_Mo_push_252 (by omega) (kk := ?_)
                    refine gx_topl _ heq0 ?_
                    refine gx_lstore C _ dd_Mo_push_253 (kk := ?_)
                    refine gx_aload_n C 2 dd_Mo_push_255 (kk := ?_)
                    refine mo_get C fd_Mo_20 dd_Mo_push_256 (kk := ?_)
                    refine gx_bipush (v := nI 64) C dd_Mo_push_259 (kk := ?_)
                    refine gx_iload_n C 1 dd_Mo_push_261 (kk := ?_)
                    refine gx_iadd C dd_Mo_push_262 (kk := ?_)
                    refine gx_topi _ (nI_add _ _) ?_
                    refine gx_lload C 0 dd_Mo_push_263 (kk := ?_)
                    refine gx_lconst (v := lN 0) C dd_Mo_push_265 (kk := ?_)
                    refine gx_lcmp C dd_Mo_push_266 (kk := ?_)
                    refine gx_if_ge C 276 dd_Mo_push_267 (fun h267 => absurd h267 (by decide)) (fun h267 => ?_)
                    refine gx_ldc2 C dd_Mo_push_270 kc_Mo_79 (kk := ?_)
                    refine gx_goto C 285 dd_Mo_push_273 (kk := ?_)
                    refine mo_s47 C dd_Mo_push_285 (by omega) (kk := fun L285 hL285 => ?_)
                    refine gx_iinc C 1 (nI (q + 1)) _ dd_Mo_push_286 (nI_1 _) (kk := ?_)
                    refine gx_goto C 232 dd_Mo_push_289 (kk := ?_)
                    refine gx_loc [0, 2, 3, 4] ?_
                    have hM6 := mo_is_en (s := 4) (q := q) (o := none) hL285 rfl hM1
                    refine ihq (q + 1) L285 (by omega) ?_ (mo_w_tr hw1 (mo_w_fr (mo_fr_47 (s := 4) (q := q) (by omega) hL285))) (mn_ok_k rfl (by rw [hL285, gm_un (by decide)]) hmn)
                    rw [pu_es_n heq]
                    rw [show va_up (pu_es (σ.1 i) (on_of (σ.1 i)) q) q none = pu_es (σ.1 i) (on_of (σ.1 i)) q from va_up_id _ _ (if_neg (by omega))] at hM6
                    exact hM6
                  · rw [heq] at heq0
                    have heb := hok.1.2.2.2.1 _ _ heq
                    obtain ⟨c, hcq, hce⟩ := pu_ne (on_of_fix hok) (by omega) heq
                    have hl0 := (hmn q (by omega)).1
                    rw [hcq] at hl0
                    refine gx_aload_n C 1 dd_Mo_push_242 (kk := ?_)
                    refine mo_get C fd_Mo_20 dd_Mo_push_243 (kk := ?_)
                    refine gx_bipush (v := nI 16) C dd_Mo_push_246 (kk := ?_)
                    refine gx_iload_n C 2 dd_Mo_push_248 (kk := ?_)
                    refine gx_imul C dd_Mo_push_249 (kk := ?_)
                    refine gx_topi _ (pk_mul _ _) ?_
                    refine gx_iload_n C 0 dd_Mo_push_250 (kk := ?_)
                    refine gx_iadd C dd_Mo_push_251 (kk := ?_)
                    refine gx_topi _ (nI_add _ _) ?_
                    refine mo_l47 C dd_Mo_push_252 (by omega) (kk := ?_)
                    refine gx_topl _ heq0 ?_
                    refine gx_lstore C _ dd_Mo_push_253 (kk := ?_)
                    refine gx_aload_n C 2 dd_Mo_push_255 (kk := ?_)
                    refine mo_get C fd_Mo_20 dd_Mo_push_256 (kk := ?_)
                    refine gx_bipush (v := nI 64) C dd_Mo_push_259 (kk := ?_)
                    refine gx_iload_n C 1 dd_Mo_push_261 (kk := ?_)
                    refine gx_iadd C dd_Mo_push_262 (kk := ?_)
                    refine gx_topi _ (nI_add _ _) ?_
                    refine gx_lload C 0 dd_Mo_push_263 (kk := ?_)
                    refine gx_lconst (v := lN 0) C dd_Mo_push_265 (kk := ?_)
                    refine gx_lcmp C dd_Mo_push_266 (kk := ?_)
                    refine gx_if_ge C 276 dd_Mo_push_267 (fun h267 => ?_) (fun h267 => absurd (lc_ge.mpr (by show lN 0 ≤ lN e; rw [pk_lLE (by decide) (by omega)]; omega)) h267)
                    refine gx_lload C 0 dd_Mo_push_276 (kk := ?_)
                    refine gx_aload_n C 2 dd_Mo_push_278 (kk := ?_)
                    refine mo_get C fd_Mo_50 dd_Mo_push_279 (kk := ?_)
                    refine gx_iload_n C 1 dd_Mo_push_282 (kk := ?_)
                    refine mo_l57 C dd_Mo_push_283 (by omega) (kk := ?_)
                    refine gx_topl (lN (c / 32)) hl0 ?_
                    refine gx_lsub C dd_Mo_push_284 (kk := ?_)
                    refine gx_topl (lN (e - c / 32)) (lN_sub hce) ?_
                    refine mo_s47 C dd_Mo_push_285 (by omega) (kk := fun L285 hL285 => ?_)
                    refine gx_iinc C 1 (nI (q + 1)) _ dd_Mo_push_286 (nI_1 _) (kk := ?_)
                    refine gx_goto C 232 dd_Mo_push_289 (kk := ?_)
                    refine gx_loc [0, 2, 3, 4] ?_
                    have hM6 := mo_is_en (s := 4) (q := q) (o := some (e - c / 32)) hL285 rfl hM1
                    refine ihq (q + 1) L285 (by omega) ?_ (mo_w_tr hw1 (mo_w_fr (mo_fr_47 (s := 4) (q := q) (by omega) hL285))) (mn_ok_k rfl (by rw [hL285, gm_un (by decide)]) hmn)
                    rw [← pu_es_y heq, hcq]
                    exact hM6
              exact ends (am_n (σ.1 i)) 0 L1 (by omega) (by rw [pu_es_0]; exact hM1) hw1 hmn
            | succ m ihj =>
              intro j F1 L1 hj hM1 hw1 hmn hso hab
              obtain ⟨x, hx⟩ : ∃ x, (am_ar (σ.1 i))[j]? = some x := ⟨_, List.getElem?_eq_getElem (by omega)⟩
              have hxa := (mo_w_is hw1 hi4 (hM i hi4)).2.2.2.2.1 j x hx
              have hxm := List.mem_of_getElem? hx
              have hxb := hok.1.2.2.1 x hxm
              refine gx_iload_n C 0 dd_Mo_push_112 (kk := ?_)
              refine gx_bipush (v := nI 65) C dd_Mo_push_113 (kk := ?_)
              refine gx_iload_n C 2 dd_Mo_push_115 (kk := ?_)
              refine gx_imul C dd_Mo_push_116 (kk := ?_)
              refine gx_topi _ (pk_mul _ _) ?_
              refine gx_aload_n C 1 dd_Mo_push_117 (kk := ?_)
              refine mo_get C fd_Mo_23 dd_Mo_push_118 (kk := ?_)
              refine gx_iload_n C 2 dd_Mo_push_121 (kk := ?_)
              refine mo_l48 C dd_Mo_push_122 (by omega) (kk := ?_)
              refine gx_topi _ (mo_w_is hw1 hi4 (hM i hi4)).2.2.2.1 ?_
              refine gx_iadd C dd_Mo_push_123 (kk := ?_)
              refine gx_topi _ (nI_add _ _) ?_
              refine gx_icmp_ge C 230 dd_Mo_push_124 (fun h124 => absurd h124 (nI_ge (by omega) (by omega))) (fun h124 => ?_)
              have hf0 := (hmn (x.1 / 1024) (by omega)).1
              rcases hcf : (on_of (σ.1 i)) (x.1 / 1024) with _ | c
              · rw [hcf] at hf0
                have hpi : pu_i (on_of (σ.1 i)) x = none := by
                  unfold pu_i
                  rw [hcf]
                refine gx_aload_n C 1 dd_Mo_push_127 (kk := ?_)
                refine mo_get C fd_Mo_50 dd_Mo_push_128 (kk := ?_)
                refine gx_aload_n C 1 dd_Mo_push_131 (kk := ?_)
                refine mo_get C fd_Mo_26 dd_Mo_push_132 (kk := ?_)
                refine gx_iload_n C 0 dd_Mo_push_135 (kk := ?_)
                refine mo_l49 C dd_Mo_push_136 (by omega) (kk := ?_)
                refine gx_topi _ hxa.1 ?_
                refine mo_l57 C dd_Mo_push_137 (by omega) (kk := ?_)
                refine gx_topl (4000000000000000000) hf0 ?_
                refine gx_ldc2 C dd_Mo_push_138 kc_Mo_129 (kk := ?_)
                refine gx_lcmp C dd_Mo_push_141 (kk := ?_)
                refine gx_if_ge C 224 dd_Mo_push_142 (fun h142 => ?_) (fun h142 => absurd (by decide) h142)
                refine gx_iinc C 0 (nI (65 * i + (j + 1))) _ dd_Mo_push_224 (nI_1 _) (kk := ?_)
                refine gx_goto C 112 dd_Mo_push_227 (kk := ?_)
                exact ihj (j + 1) F1 L1 (by omega) (by rw [pu_ar_n hx hpi]; exact hM1) hw1 hmn (by rw [pu_ar_n hx hpi]; exact hso) (by rw [pu_ar_n hx hpi]; exact hab)
              · rw [hcf] at hf0
                have hcb := ((hmn (x.1 / 1024) (by omega)).2 c hcf).2
                refine gx_aload_n C 1 dd_Mo_push_127 (kk := ?_)
                refine mo_get C fd_Mo_50 dd_Mo_push_128 (kk := ?_)
                refine gx_aload_n C 1 dd_Mo_push_131 (kk := ?_)
                refine mo_get C fd_Mo_26 dd_Mo_push_132 (kk := ?_)
                refine gx_iload_n C 0 dd_Mo_push_135 (kk := ?_)
                refine mo_l49 C dd_Mo_push_136 (by omega) (kk := ?_)
                refine gx_topi _ hxa.1 ?_
                refine mo_l57 C dd_Mo_push_137 (by omega) (kk := ?_)
                refine gx_topl (lN (c / 32)) hf0 ?_
                refine gx_ldc2 C dd_Mo_push_138 kc_Mo_129 (kk := ?_)
                refine gx_lcmp C dd_Mo_push_141 (kk := ?_)
                refine gx_if_ge C 224 dd_Mo_push_142 (fun h142 => absurd (lc_ge.mp h142) (mf_fl (by omega))) (fun h142 => ?_)
                have ht0 := (hmn (x.1 % 16) (by omega)).1
                rcases hct : (on_of (σ.1 i)) (x.1 % 16) with _ | d
                · rw [hct] at ht0
                  have hpi : pu_i (on_of (σ.1 i)) x = none := by
                    unfold pu_i
                    rw [hcf, hct]
                  refine gx_aload_n C 1 dd_Mo_push_145 (kk := ?_)
                  refine mo_get C fd_Mo_50 dd_Mo_push_146 (kk := ?_)
                  refine gx_aload_n C 1 dd_Mo_push_149 (kk := ?_)
                  refine mo_get C fd_Mo_29 dd_Mo_push_150 (kk := ?_)
                  refine gx_iload_n C 0 dd_Mo_push_153 (kk := ?_)
                  refine mo_l50 C dd_Mo_push_154 (by omega) (kk := ?_)
                  refine gx_topi _ hxa.2.1 ?_
                  refine mo_l57 C dd_Mo_push_155 (by omega) (kk := ?_)
                  refine gx_topl (4000000000000000000) ht0 ?_
                  refine gx_ldc2 C dd_Mo_push_156 kc_Mo_129 (kk := ?_)
                  refine gx_lcmp C dd_Mo_push_159 (kk := ?_)
                  refine gx_if_ge C 224 dd_Mo_push_160 (fun h160 => ?_) (fun h160 => absurd (by decide) h160)
                  refine gx_iinc C 0 (nI (65 * i + (j + 1))) _ dd_Mo_push_224 (nI_1 _) (kk := ?_)
                  refine gx_goto C 112 dd_Mo_push_227 (kk := ?_)
                  exact ihj (j + 1) F1 L1 (by omega) (by rw [pu_ar_n hx hpi]; exact hM1) hw1 hmn (by rw [pu_ar_n hx hpi]; exact hso) (by rw [pu_ar_n hx hpi]; exact hab)
                · rw [hct] at ht0
                  have hdb := ((hmn (x.1 % 16) (by omega)).2 d hct).2
                  have hnn := pu_nn hok (on_of_fix hok) hxm hcf hct
                  have hpi : pu_i (on_of (σ.1 i)) x = some (x.1, x.2 + d / 32 - c / 32) := by
                    unfold pu_i
                    rw [hcf, hct]
                  refine gx_aload_n C 1 dd_Mo_push_145 (kk := ?_)
                  refine mo_get C fd_Mo_50 dd_Mo_push_146 (kk := ?_)
                  refine gx_aload_n C 1 dd_Mo_push_149 (kk := ?_)
                  refine mo_get C fd_Mo_29 dd_Mo_push_150 (kk := ?_)
                  refine gx_iload_n C 0 dd_Mo_push_153 (kk := ?_)
                  refine mo_l50 C dd_Mo_push_154 (by omega) (kk := ?_)
                  refine gx_topi _ hxa.2.1 ?_
                  refine mo_l57 C dd_Mo_push_155 (by omega) (kk := ?_)
                  refine gx_topl (lN (d / 32)) ht0 ?_
                  refine gx_ldc2 C dd_Mo_push_156 kc_Mo_129 (kk := ?_)
                  refine gx_lcmp C dd_Mo_push_159 (kk := ?_)
                  refine gx_if_ge C 224 dd_Mo_push_160 (fun h160 => absurd (lc_ge.mp h160) (mf_fl (by omega))) (fun h160 => ?_)
                  refine gx_aload_n C 1 dd_Mo_push_163 (kk := ?_)
                  refine gx_iconst (v := nI 4) C dd_Mo_push_164 (kk := ?_)
                  refine gx_aload_n C 1 dd_Mo_push_165 (kk := ?_)
                  refine mo_get C fd_Mo_26 dd_Mo_push_166 (kk := ?_)
                  refine gx_iload_n C 0 dd_Mo_push_169 (kk := ?_)
                  refine mo_l49 C dd_Mo_push_170 (by omega) (kk := ?_)
                  refine gx_topi _ hxa.1 ?_
                  refine gx_aload_n C 1 dd_Mo_push_171 (kk := ?_)
                  refine mo_get C fd_Mo_29 dd_Mo_push_172 (kk := ?_)
                  refine gx_iload_n C 0 dd_Mo_push_175 (kk := ?_)
                  refine mo_l50 C dd_Mo_push_176 (by omega) (kk := ?_)
                  refine gx_topi _ hxa.2.1 ?_
                  refine gx_aload_n C 1 dd_Mo_push_177 (kk := ?_)
                  refine mo_get C fd_Mo_32 dd_Mo_push_178 (kk := ?_)
                  refine gx_iload_n C 0 dd_Mo_push_181 (kk := ?_)
                  refine mo_l51 C dd_Mo_push_182 (by omega) (kk := ?_)
                  refine gx_topi _ hxa.2.2.1 ?_
                  refine gx_aload_n C 1 dd_Mo_push_183 (kk := ?_)
                  refine mo_get C fd_Mo_35 dd_Mo_push_184 (kk := ?_)
                  refine gx_iload_n C 0 dd_Mo_push_187 (kk := ?_)
                  refine mo_l52 C dd_Mo_push_188 (by omega) (kk := ?_)
                  refine gx_topi _ hxa.2.2.2.1 ?_
                  refine gx_aload_n C 1 dd_Mo_push_189 (kk := ?_)
                  refine mo_get C fd_Mo_38 dd_Mo_push_190 (kk := ?_)
                  refine gx_iload_n C 0 dd_Mo_push_193 (kk := ?_)
                  refine mo_l53 C dd_Mo_push_194 (by omega) (kk := ?_)
                  refine gx_topl _ hxa.2.2.2.2 ?_
                  refine gx_aload_n C 1 dd_Mo_push_195 (kk := ?_)
                  refine mo_get C fd_Mo_50 dd_Mo_push_196 (kk := ?_)
                  refine gx_aload_n C 1 dd_Mo_push_199 (kk := ?_)
                  refine mo_get C fd_Mo_29 dd_Mo_push_200 (kk := ?_)
                  refine gx_iload_n C 0 dd_Mo_push_203 (kk := ?_)
                  refine mo_l50 C dd_Mo_push_204 (by omega) (kk := ?_)
                  refine gx_topi _ hxa.2.1 ?_
                  refine mo_l57 C dd_Mo_push_205 (by omega) (kk := ?_)
                  refine gx_topl (lN (d / 32)) ht0 ?_
                  refine gx_ladd C dd_Mo_push_206 (kk := ?_)
                  refine gx_topl _ (lN_add _ _) ?_
                  refine gx_aload_n C 1 dd_Mo_push_207 (kk := ?_)
                  refine mo_get C fd_Mo_50 dd_Mo_push_208 (kk := ?_)
                  refine gx_aload_n C 1 dd_Mo_push_211 (kk := ?_)
                  refine mo_get C fd_Mo_26 dd_Mo_push_212 (kk := ?_)
                  refine gx_iload_n C 0 dd_Mo_push_215 (kk := ?_)
                  refine mo_l49 C dd_Mo_push_216 (by omega) (kk := ?_)
                  refine gx_topi _ hxa.1 ?_
                  refine mo_l57 C dd_Mo_push_217 (by omega) (kk := ?_)
                  refine gx_topl (lN (c / 32)) hf0 ?_
                  refine gx_lsub C dd_Mo_push_218 (kk := ?_)
                  refine gx_topl (lN (x.2 + d / 32 - c / 32)) (lN_sub hnn) ?_
                  refine gx_callV C (ct_Mo_put (gx_l K) D dA ad h F1 L1 S (s := 4) (f := x.1 / 1024) (t := x.1 % 16) (i := x.1 / 128 % 8) (o := x.1 / 16 % 8) (x0 := x.2 + d / 32 - c / 32) (B := 35184372088832) (a := (am_n (σ.1 i), pu_st (σ.1 i) (on_of (σ.1 i)), (fun _ => none), pu_ar (on_of (σ.1 i)) (am_ar (σ.1 i)) j)) (by decide) hM1 hso (fun z hz => (hab z hz).1) (fun z hz => (hab z hz).2) (by decide) (by omega) (by omega) (by omega) (by omega) (by omega)) me_Mo_put ml_Mo_99 mn_Mo_put _ (gx_w_at (by decide) mo_h_43) rfl dd_Mo_push_219 (kk := fun v w hq => ?_)
                  rw [show pr_k (x.1 / 1024) (x.1 / 128 % 8) (x.1 / 16 % 8) (x.1 % 16) = x.1 by unfold pr_k; omega] at hq
                  rcases hq with ⟨hr3, rfl, F3, L3, rfl, hM3, hf3⟩ | ⟨hr3, rfl, rfl⟩
                  · refine gx_istore C _ dd_Mo_push_222 (kk := ?_)
                    refine gx_iinc C 1 (nI (65 * i + (j + 1))) _ dd_Mo_push_224 (nI_1 _) (kk := ?_)
                    refine gx_goto C 112 dd_Mo_push_227 (kk := ?_)
                    refine gx_loc [0, 2, 3, 4] ?_
                    exact ihj (j + 1) F3 L3 (by omega) (by rw [pu_ar_y hx hpi, mk_br, if_pos hr3]; exact hM3) (mo_w_tr hw1 (mo_w_fr hf3)) (mn_ok_k (hf3.2.2.2 58 (by decide)).1 (hf3.2.2.2 57 (by decide)).2 hmn) (by rw [pu_ar_y hx hpi]; exact mb_brs hso) (by rw [pu_ar_y hx hpi]; exact mb_brb hab (by omega) (by show x.2 + d / 32 - c / 32 < _; omega))
                  · refine gx_istore C _ dd_Mo_push_222 (kk := ?_)
                    refine gx_iinc C 1 (nI (65 * i + (j + 1))) _ dd_Mo_push_224 (nI_1 _) (kk := ?_)
                    refine gx_goto C 112 dd_Mo_push_227 (kk := ?_)
                    refine gx_loc [0, 2, 3, 4] ?_
                    exact ihj (j + 1) F1 L1 (by omega) (by rw [pu_ar_y hx hpi, mk_br, if_neg (by rw [hr3]; decide)]; exact hM1) hw1 hmn (by rw [pu_ar_y hx hpi]; exact mb_brs hso) (by rw [pu_ar_y hx hpi]; exact mb_brb hab (by omega) (by show x.2 + d / 32 - c / 32 < _; omega))
          exact arcs (am_ar (σ.1 i)).length 0 F43 L55 (by omega) hM6 hw5 hmn5 List.Pairwise.nil (fun x hx => absurd hx List.not_mem_nil)
        · rw [hls] at hs0
          have hcb0 := ((hmn5 xa.1 hxab.1).2 c0 hls).2
          refine gx_aload_n C 0 dd_Mo_push_65 (kk := ?_)
          refine mo_get C fd_Mo_50 dd_Mo_push_66 (kk := ?_)
          refine gx_aload_n C 0 dd_Mo_push_69 (kk := ?_)
          refine mo_get C fd_Mo_13 dd_Mo_push_70 (kk := ?_)
          refine gx_iload_n C 1 dd_Mo_push_73 (kk := ?_)
          refine mo_l45 C dd_Mo_push_74 (by omega) (kk := ?_)
          refine gx_topi _ hsq.1 ?_
          refine mo_l57 C dd_Mo_push_75 (by omega) (kk := ?_)
          refine gx_topl (lN (c0 / 32)) hs0 ?_
          refine gx_ldc2 C dd_Mo_push_76 kc_Mo_129 (kk := ?_)
          refine gx_lcmp C dd_Mo_push_79 (kk := ?_)
          refine gx_if_ge C 107 dd_Mo_push_80 (fun h80 => absurd (lc_ge.mp h80) (mf_fl (by omega))) (fun h80 => ?_)
          refine gx_aload_n C 0 dd_Mo_push_83 (kk := ?_)
          refine mo_get C fd_Mo_16 dd_Mo_push_84 (kk := ?_)
          refine gx_iconst (v := nI 4) C dd_Mo_push_87 (kk := ?_)
          refine gx_aload_n C 0 dd_Mo_push_88 (kk := ?_)
          refine mo_get C fd_Mo_16 dd_Mo_push_89 (kk := ?_)
          refine gx_iload_n C 1 dd_Mo_push_92 (kk := ?_)
          refine mo_l46 C dd_Mo_push_93 (by omega) (kk := ?_)
          refine gx_topl _ hsq.2 ?_
          refine gx_aload_n C 0 dd_Mo_push_94 (kk := ?_)
          refine mo_get C fd_Mo_50 dd_Mo_push_95 (kk := ?_)
          refine gx_aload_n C 0 dd_Mo_push_98 (kk := ?_)
          refine mo_get C fd_Mo_13 dd_Mo_push_99 (kk := ?_)
          refine gx_iload_n C 1 dd_Mo_push_102 (kk := ?_)
          refine mo_l45 C dd_Mo_push_103 (by omega) (kk := ?_)
          refine gx_topi _ hsq.1 ?_
          refine mo_l57 C dd_Mo_push_104 (by omega) (kk := ?_)
          refine gx_topl (lN (c0 / 32)) hs0 ?_
          refine gx_ladd C dd_Mo_push_105 (kk := ?_)
          refine gx_topl _ (lN_add _ _) ?_
          refine mo_s46 C dd_Mo_push_106 (by omega) (kk := fun L106 hL106 => ?_)
          have hps : pu_st (σ.1 i) (on_of (σ.1 i)) = some (xa.1, xa.2 + c0 / 32) := by
            unfold pu_st
            rw [hst]
            show some (xa.1, xa.2 + pu_w ((on_of (σ.1 i)) xa.1)) = _
            rw [hls]
            rfl
          have hM6 : mo_is F43 L106 4 (am_n (σ.1 i), pu_st (σ.1 i) (on_of (σ.1 i)), (fun _ => none), []) := by
            rw [hps]
            rw [hst] at hM5
            exact mo_is_sw hL106 hM5
          refine gx_bipush (v := nI 65) C dd_Mo_push_107 (kk := ?_)
          refine gx_iload_n C 1 dd_Mo_push_109 (kk := ?_)
          refine gx_imul C dd_Mo_push_110 (kk := ?_)
          refine gx_topi _ (pk_mul _ _) ?_
          refine gx_istore_n C _ dd_Mo_push_111 (kk := ?_)
          have arcs : ∀ m j F1 L1, j + m = (am_ar (σ.1 i)).length → mo_is F1 L1 4 (am_n (σ.1 i), pu_st (σ.1 i) (on_of (σ.1 i)), (fun _ => none), pu_ar (on_of (σ.1 i)) (am_ar (σ.1 i)) j) → mo_w F L F1 L1 → mn_ok F1 L1 (σ.1 i) → am_so (pu_ar (on_of (σ.1 i)) (am_ar (σ.1 i)) j) → (∀ x ∈ (pu_ar (on_of (σ.1 i)) (am_ar (σ.1 i)) j), x.1 < 16384 ∧ x.2 < 35184372088832) → gx_G K D 6 0 0 112 [(3, .int (nI (65 * i + j))), (0, .ref (ad 43)), (1, .int (nI i)), (2, .int (nI k))] [] (gx_w ad (mo_h dA ad h F1 L1 S)) (gx_Z K D dA 0 0 (fun v w => ∃ F2 L2 S2, w = (gx_w ad (mo_h dA ad h F2 L2 S2)) ∧ rs F2 L2 S2 (o_push σ (nI i) (nI k)).2 ∧ v = some (.int (o_push σ (nI i) (nI k)).1))) := by
            intro m
            induction m with
            | zero =>
              intro j F1 L1 hj hM1 hw1 hmn hso hab
              refine gx_iload_n C 0 dd_Mo_push_112 (kk := ?_)
              refine gx_bipush (v := nI 65) C dd_Mo_push_113 (kk := ?_)
              refine gx_iload_n C 2 dd_Mo_push_115 (kk := ?_)
              refine gx_imul C dd_Mo_push_116 (kk := ?_)
              refine gx_topi _ (pk_mul _ _) ?_
              refine gx_aload_n C 1 dd_Mo_push_117 (kk := ?_)
              refine mo_get C fd_Mo_23 dd_Mo_push_118 (kk := ?_)
              refine gx_iload_n C 2 dd_Mo_push_121 (kk := ?_)
              refine mo_l48 C dd_Mo_push_122 (by omega) (kk := ?_)
              refine gx_topi _ (mo_w_is hw1 hi4 (hM i hi4)).2.2.2.1 ?_
              refine gx_iadd C dd_Mo_push_123 (kk := ?_)
              refine gx_topi _ (nI_add _ _) ?_
              refine gx_icmp_ge C 230 dd_Mo_push_124 (fun h124 => ?_) (fun h124 => absurd (nI_le (a := 65 * i + (am_ar (σ.1 i)).length) (b := 65 * i + j) (by omega) (by omega)) h124)
              refine gx_iconst (v := nI 0) C dd_Mo_push_230 (kk := ?_)
              refine gx_istore_n C _ dd_Mo_push_231 (kk := ?_)
              obtain rfl : j = (am_ar (σ.1 i)).length := by omega
              have ends : ∀ m q L1, q + m = am_n (σ.1 i) → mo_is F1 L1 4 (am_n (σ.1 i), pu_st (σ.1 i) (on_of (σ.1 i)), pu_es (σ.1 i) (on_of (σ.1 i)) q, pu_ar (on_of (σ.1 i)) (am_ar (σ.1 i)) (am_ar (σ.1 i)).length) → mo_w F L F1 L1 → mn_ok F1 L1 (σ.1 i) → gx_G K D 6 0 0 232 [(3, .int (nI q)), (0, .ref (ad 43)), (1, .int (nI i)), (2, .int (nI k))] [] (gx_w ad (mo_h dA ad h F1 L1 S)) (gx_Z K D dA 0 0 (fun v w => ∃ F2 L2 S2, w = (gx_w ad (mo_h dA ad h F2 L2 S2)) ∧ rs F2 L2 S2 (o_push σ (nI i) (nI k)).2 ∧ v = some (.int (o_push σ (nI i) (nI k)).1))) := by
                intro m
                induction m with
                | zero =>
                  intro q L1 hq0 hM1 hw1 hmn
                  refine gx_iload_n C 0 dd_Mo_push_232 (kk := ?_)
                  refine gx_aload_n C 1 dd_Mo_push_233 (kk := ?_)
                  refine mo_get C fd_Mo_7 dd_Mo_push_234 (kk := ?_)
                  refine gx_iload_n C 2 dd_Mo_push_237 (kk := ?_)
                  refine mo_l44 C dd_Mo_push_238 (by omega) (kk := ?_)
                  refine gx_topi _ (mo_w_is hw1 hi4 (hM i hi4)).1 ?_
                  refine gx_icmp_ge C 292 dd_Mo_push_239 (fun h239 => ?_) (fun h239 => absurd (nI_le (a := am_n (σ.1 i)) (b := q) (by omega) (by omega)) h239)
                  have hM9 : mo_is F1 L1 4 (am_n (σ.1 i), pu_st (σ.1 i) (on_of (σ.1 i)), pu_es (σ.1 i) (on_of (σ.1 i)) (am_n (σ.1 i)), pu_ar (on_of (σ.1 i)) (am_ar (σ.1 i)) (am_ar (σ.1 i)).length) := by
                    rw [show q = am_n (σ.1 i) by omega] at hM1
                    exact hM1
                  have hsb9 : ∀ x, pu_st (σ.1 i) (on_of (σ.1 i)) = some x → x.1 < 16 ∧ x.2 < 35184372088832 := (fun x hx => by
                    have hx : (am_st (σ.1 i)).map (fun x => (x.1, x.2 + pu_w ((on_of (σ.1 i)) x.1))) = some x := hx
                    rcases hst2 : am_st (σ.1 i) with _ | xa
                    · rw [hst2] at hx; cases hx
                    · rw [hst2] at hx
                      have hx : some (xa.1, xa.2 + pu_w ((on_of (σ.1 i)) xa.1)) = some x := hx
                      cases hx
                      have hxb := hok.1.2.2.2.2 xa hst2
                      refine ⟨hxb.1, ?_⟩
                      show xa.2 + pu_w ((on_of (σ.1 i)) xa.1) < _
                      rcases hcx : (on_of (σ.1 i)) xa.1 with _ | cx
                      · show xa.2 + 0 < _; omega
                      · have := ((hmn xa.1 hxb.1).2 cx hcx).2
                        show xa.2 + cx / 32 < _
                        omega)
                  have heb9 : ∀ q e, pu_es (σ.1 i) (on_of (σ.1 i)) (am_n (σ.1 i)) q = some e → e < 35184372088832 := (fun q e he => by
                    unfold pu_es at he
                    split at he
                    · rcases hz : am_en (σ.1 i) q with _ | e0
                      · rw [hz] at he; cases he
                      · rw [hz] at he
                        have he : some (e0 - pu_w ((on_of (σ.1 i)) q)) = some e := he
                        cases he
                        have := hok.1.2.2.2.1 _ _ hz
                        omega
                    · cases he)
                  refine gx_aload_n C 1 dd_Mo_push_292 (kk := ?_)
                  refine gx_iload_n C 3 dd_Mo_push_293 (kk := ?_)
                  refine gx_callV C (ct_Mo_keep (gx_l K) D dA ad h F1 L1 S (c := k) (B := 35184372088832) (b := (am_n (σ.1 i), pu_st (σ.1 i) (on_of (σ.1 i)), pu_es (σ.1 i) (on_of (σ.1 i)) (am_n (σ.1 i)), pu_ar (on_of (σ.1 i)) (am_ar (σ.1 i)) (am_ar (σ.1 i)).length)) (by omega) hM9 hn16 (by decide) (fun x hx => (hab x hx).2) heb9 hsb9) me_Mo_keep ml_Mo_126 mn_Mo_keep _ (gx_w_at (by decide) mo_h_43) rfl dd_Mo_push_294 (kk := fun v w hq => ?_)
                  rcases hq with ⟨hfit, rfl, F7, L7, rfl, hM7, hf7⟩ | ⟨hfit, rfl, rfl⟩
                  · refine gx_if_eq C 309 dd_Mo_push_297 (fun h297 => absurd h297 (by decide)) (fun h297 => ?_)
                    refine gx_aload_n C 1 dd_Mo_push_300 (kk := ?_)
                    refine mo_get C fd_Mo_23 dd_Mo_push_301 (kk := ?_)
                    refine gx_iload_n C 3 dd_Mo_push_304 (kk := ?_)
                    refine mo_l48 C dd_Mo_push_305 (by omega) (kk := ?_)
                    refine gx_topi (nI (pu_ar (on_of (σ.1 i)) (am_ar (σ.1 i)) (am_ar (σ.1 i)).length).length) hM7.2.2.2.1 ?_
                    refine gx_goto C 311 dd_Mo_push_306 (kk := ?_)
                    refine gx_iret C dd_Mo_push_311 ?_
                    have hmk : (some (pu_mk (σ.1 i) (on_of (σ.1 i))) : Option am_T) = some (am_n (σ.1 i), pu_st (σ.1 i) (on_of (σ.1 i)), pu_es (σ.1 i) (on_of (σ.1 i)) (am_n (σ.1 i)), pu_ar (on_of (σ.1 i)) (am_ar (σ.1 i)) (am_ar (σ.1 i)).length) := rfl
                    have hsp : o_push σ (nI i) (nI k) = (nI (pu_ar (on_of (σ.1 i)) (am_ar (σ.1 i)) (am_ar (σ.1 i)).length).length, o_set σ k (am_n (σ.1 i), pu_st (σ.1 i) (on_of (σ.1 i)), pu_es (σ.1 i) (on_of (σ.1 i)) (am_n (σ.1 i)), pu_ar (on_of (σ.1 i)) (am_ar (σ.1 i)) (am_ar (σ.1 i)).length)) := by
                      unfold o_push
                      simp only [hi, hk]
                      rw [hmk]
                      exact o_keep_y hfit
                    rw [hsp]
                    exact ⟨F7, L7, _, rfl, rs_set hf7 hM7 (mo_w_rs hw1 rfl rfl hr), rfl⟩
                  · refine gx_if_eq C 309 dd_Mo_push_297 (fun h297 => ?_) (fun h297 => absurd rfl h297)
                    refine gx_bipush (v := -2) C dd_Mo_push_309 (kk := ?_)
                    refine gx_iret C dd_Mo_push_311 ?_
                    have hmk : (some (pu_mk (σ.1 i) (on_of (σ.1 i))) : Option am_T) = some (am_n (σ.1 i), pu_st (σ.1 i) (on_of (σ.1 i)), pu_es (σ.1 i) (on_of (σ.1 i)) (am_n (σ.1 i)), pu_ar (on_of (σ.1 i)) (am_ar (σ.1 i)) (am_ar (σ.1 i)).length) := rfl
                    have hsp : o_push σ (nI i) (nI k) = (-2, σ) := by
                      unfold o_push
                      simp only [hi, hk]
                      rw [hmk]
                      exact o_keep_n hfit
                    rw [hsp]
                    exact ⟨_, _, _, rfl, mo_w_rs hw1 rfl rfl hr, rfl⟩
                | succ m ihq =>
                  intro q L1 hq0 hM1 hw1 hmn
                  refine gx_iload_n C 0 dd_Mo_push_232 (kk := ?_)
                  refine gx_aload_n C 1 dd_Mo_push_233 (kk := ?_)
                  refine mo_get C fd_Mo_7 dd_Mo_push_234 (kk := ?_)
                  refine gx_iload_n C 2 dd_Mo_push_237 (kk := ?_)
                  refine mo_l44 C dd_Mo_push_238 (by omega) (kk := ?_)
                  refine gx_topi _ (mo_w_is hw1 hi4 (hM i hi4)).1 ?_
                  refine gx_icmp_ge C 292 dd_Mo_push_239 (fun h239 => absurd h239 (nI_ge (by omega) (by omega))) (fun h239 => ?_)
                  have heq0 := (mo_w_is hw1 hi4 (hM i hi4)).2.2.1 q (by omega)
                  rcases heq : am_en (σ.1 i) q with _ | e
                  · rw [heq] at heq0
                    refine gx_aload_n C 1 dd_Mo_push_242 (kk := ?_)
                    refine mo_get C fd_Mo_20 dd_Mo_push_243 (kk := ?_)
                    refine gx_bipush (v := nI 16) C dd_Mo_push_246 (kk := ?_)
                    refine gx_iload_n C 2 dd_Mo_push_248 (kk := ?_)
                    refine gx_imul C dd_Mo_push_249 (kk := ?_)
                    refine gx_topi _ (pk_mul _ _) ?_
                    refine gx_iload_n C 0 dd_Mo_push_250 (kk := ?_)
                    refine gx_iadd C dd_Mo_push_251 (kk := ?_)
                    refine gx_topi _ (nI_add _ _) ?_
                    refine mo_l47 C dd_Mo_push_252 (by omega) (kk := ?_)
                    refine gx_topl _ heq0 ?_
                    refine gx_lstore C _ dd_Mo_push_253 (kk := ?_)
                    refine gx_aload_n C 2 dd_Mo_push_255 (kk := ?_)
                    refine mo_get C fd_Mo_20 dd_Mo_push_256 (kk := ?_)
                    refine gx_bipush (v := nI 64) C dd_Mo_push_259 (kk := ?_)
                    refine gx_iload_n C 1 dd_Mo_push_261 (kk := ?_)
                    refine gx_iadd C dd_Mo_push_262 (kk := ?_)
                    refine gx_topi _ (nI_add _ _) ?_
                    refine gx_lload C 0 dd_Mo_push_263 (kk := ?_)
                    refine gx_lconst (v := lN 0) C dd_Mo_push_265 (kk := ?_)
                    refine gx_lcmp C dd_Mo_push_266 (kk := ?_)
                    refine gx_if_ge C 276 dd_Mo_push_267 (fun h267 => absurd h267 (by decide)) (fun h267 => ?_)
                    refine gx_ldc2 C dd_Mo_push_270 kc_Mo_79 (kk := ?_)
                    refine gx_goto C 285 dd_Mo_push_273 (kk := ?_)
                    refine mo_s47 C dd_Mo_push_285 (by omega) (kk := fun L285 hL285 => ?_)
                    refine gx_iinc C 1 (nI (q + 1)) _ dd_Mo_push_286 (nI_1 _) (kk := ?_)
                    refine gx_goto C 232 dd_Mo_push_289 (kk := ?_)
                    refine gx_loc [0, 2, 3, 4] ?_
                    have hM6 := mo_is_en (s := 4) (q := q) (o := none) hL285 rfl hM1
                    refine ihq (q + 1) L285 (by omega) ?_ (mo_w_tr hw1 (mo_w_fr (mo_fr_47 (s := 4) (q := q) (by omega) hL285))) (mn_ok_k rfl (by rw [hL285, gm_un (by decide)]) hmn)
                    rw [pu_es_n heq]
                    rw [show va_up (pu_es (σ.1 i) (on_of (σ.1 i)) q) q none = pu_es (σ.1 i) (on_of (σ.1 i)) q from va_up_id _ _ (if_neg (by omega))] at hM6
                    exact hM6
                  · rw [heq] at heq0
                    have heb := hok.1.2.2.2.1 _ _ heq
                    obtain ⟨c, hcq, hce⟩ := pu_ne (on_of_fix hok) (by omega) heq
                    have hl0 := (hmn q (by omega)).1
                    rw [hcq] at hl0
                    refine gx_aload_n C 1 dd_Mo_push_242 (kk := ?_)
                    refine mo_get C fd_Mo_20 dd_Mo_push_243 (kk := ?_)
                    refine gx_bipush (v := nI 16) C dd_Mo_push_246 (kk := ?_)
                    refine gx_iload_n C 2 dd_Mo_push_248 (kk := ?_)
                    refine gx_imul C dd_Mo_push_249 (kk := ?_)
                    refine gx_topi _ (pk_mul _ _) ?_
                    refine gx_iload_n C 0 dd_Mo_push_250 (kk := ?_)
                    refine gx_iadd C dd_Mo_push_251 (kk := ?_)
                    refine gx_topi _ (nI_add _ _) ?_
                    refine mo_l47 C dd_Mo_push_252 (by omega) (kk := ?_)
                    refine gx_topl _ heq0 ?_
                    refine gx_lstore C _ dd_Mo_push_253 (kk := ?_)
                    refine gx_aload_n C 2 dd_Mo_push_255 (kk := ?_)
                    refine mo_get C fd_Mo_20 dd_Mo_push_256 (kk := ?_)
                    refine gx_bipush (v := nI 64) C dd_Mo_push_259 (kk := ?_)
                    refine gx_iload_n C 1 dd_Mo_push_261 (kk := ?_)
                    refine gx_iadd C dd_Mo_push_262 (kk := ?_)
                    refine gx_topi _ (nI_add _ _) ?_
                    refine gx_lload C 0 dd_Mo_push_263 (kk := ?_)
                    refine gx_lconst (v := lN 0) C dd_Mo_push_265 (kk := ?_)
                    refine gx_lcmp C dd_Mo_push_266 (kk := ?_)
                    refine gx_if_ge C 276 dd_Mo_push_267 (fun h267 => ?_) (fun h267 => absurd (lc_ge.mpr (by show lN 0 ≤ lN e; rw [pk_lLE (by decide) (by omega)]; omega)) h267)
                    refine gx_lload C 0 dd_Mo_push_276 (kk := ?_)
                    refine gx_aload_n C 2 dd_Mo_push_278 (kk := ?_)
                    refine mo_get C fd_Mo_50 dd_Mo_push_279 (kk := ?_)
                    refine gx_iload_n C 1 dd_Mo_push_282 (kk := ?_)
                    refine mo_l57 C dd_Mo_push_283 (by omega) (kk := ?_)
                    refine gx_topl (lN (c / 32)) hl0 ?_
                    refine gx_lsub C dd_Mo_push_284 (kk := ?_)
                    refine gx_topl (lN (e - c / 32)) (lN_sub hce) ?_
                    refine mo_s47 C dd_Mo_push_285 (by omega) (kk := fun L285 hL285 => ?_)
                    refine gx_iinc C 1 (nI (q + 1)) _ dd_Mo_push_286 (nI_1 _) (kk := ?_)
                    refine gx_goto C 232 dd_Mo_push_289 (kk := ?_)
                    refine gx_loc [0, 2, 3, 4] ?_
                    have hM6 := mo_is_en (s := 4) (q := q) (o := some (e - c / 32)) hL285 rfl hM1
                    refine ihq (q + 1) L285 (by omega) ?_ (mo_w_tr hw1 (mo_w_fr (mo_fr_47 (s := 4) (q := q) (by omega) hL285))) (mn_ok_k rfl (by rw [hL285, gm_un (by decide)]) hmn)
                    rw [← pu_es_y heq, hcq]
                    exact hM6
              exact ends (am_n (σ.1 i)) 0 L1 (by omega) (by rw [pu_es_0]; exact hM1) hw1 hmn
            | succ m ihj =>
              intro j F1 L1 hj hM1 hw1 hmn hso hab
              obtain ⟨x, hx⟩ : ∃ x, (am_ar (σ.1 i))[j]? = some x := ⟨_, List.getElem?_eq_getElem (by omega)⟩
              have hxa := (mo_w_is hw1 hi4 (hM i hi4)).2.2.2.2.1 j x hx
              have hxm := List.mem_of_getElem? hx
              have hxb := hok.1.2.2.1 x hxm
              refine gx_iload_n C 0 dd_Mo_push_112 (kk := ?_)
              refine gx_bipush (v := nI 65) C dd_Mo_push_113 (kk := ?_)
              refine gx_iload_n C 2 dd_Mo_push_115 (kk := ?_)
              refine gx_imul C dd_Mo_push_116 (kk := ?_)
              refine gx_topi _ (pk_mul _ _) ?_
              refine gx_aload_n C 1 dd_Mo_push_117 (kk := ?_)
              refine mo_get C fd_Mo_23 dd_Mo_push_118 (kk := ?_)
              refine gx_iload_n C 2 dd_Mo_push_121 (kk := ?_)
              refine mo_l48 C dd_Mo_push_122 (by omega) (kk := ?_)
              refine gx_topi _ (mo_w_is hw1 hi4 (hM i hi4)).2.2.2.1 ?_
              refine gx_iadd C dd_Mo_push_123 (kk := ?_)
              refine gx_topi _ (nI_add _ _) ?_
              refine gx_icmp_ge C 230 dd_Mo_push_124 (fun h124 => absurd h124 (nI_ge (by omega) (by omega))) (fun h124 => ?_)
              have hf0 := (hmn (x.1 / 1024) (by omega)).1
              rcases hcf : (on_of (σ.1 i)) (x.1 / 1024) with _ | c
              · rw [hcf] at hf0
                have hpi : pu_i (on_of (σ.1 i)) x = none := by
                  unfold pu_i
                  rw [hcf]
                refine gx_aload_n C 1 dd_Mo_push_127 (kk := ?_)
                refine mo_get C fd_Mo_50 dd_Mo_push_128 (kk := ?_)
                refine gx_aload_n C 1 dd_Mo_push_131 (kk := ?_)
                refine mo_get C fd_Mo_26 dd_Mo_push_132 (kk := ?_)
                refine gx_iload_n C 0 dd_Mo_push_135 (kk := ?_)
                refine mo_l49 C dd_Mo_push_136 (by omega) (kk := ?_)
                refine gx_topi _ hxa.1 ?_
                refine mo_l57 C dd_Mo_push_137 (by omega) (kk := ?_)
                refine gx_topl (4000000000000000000) hf0 ?_
                refine gx_ldc2 C dd_Mo_push_138 kc_Mo_129 (kk := ?_)
                refine gx_lcmp C dd_Mo_push_141 (kk := ?_)
                refine gx_if_ge C 224 dd_Mo_push_142 (fun h142 => ?_) (fun h142 => absurd (by decide) h142)
                refine gx_iinc C 0 (nI (65 * i + (j + 1))) _ dd_Mo_push_224 (nI_1 _) (kk := ?_)
                refine gx_goto C 112 dd_Mo_push_227 (kk := ?_)
                exact ihj (j + 1) F1 L1 (by omega) (by rw [pu_ar_n hx hpi]; exact hM1) hw1 hmn (by rw [pu_ar_n hx hpi]; exact hso) (by rw [pu_ar_n hx hpi]; exact hab)
              · rw [hcf] at hf0
                have hcb := ((hmn (x.1 / 1024) (by omega)).2 c hcf).2
                refine gx_aload_n C 1 dd_Mo_push_127 (kk := ?_)
                refine mo_get C fd_Mo_50 dd_Mo_push_128 (kk := ?_)
                refine gx_aload_n C 1 dd_Mo_push_131 (kk := ?_)
                refine mo_get C fd_Mo_26 dd_Mo_push_132 (kk := ?_)
                refine gx_iload_n C 0 dd_Mo_push_135 (kk := ?_)
                refine mo_l49 C dd_Mo_push_136 (by omega) (kk := ?_)
                refine gx_topi _ hxa.1 ?_
                refine mo_l57 C dd_Mo_push_137 (by omega) (kk := ?_)
                refine gx_topl (lN (c / 32)) hf0 ?_
                refine gx_ldc2 C dd_Mo_push_138 kc_Mo_129 (kk := ?_)
                refine gx_lcmp C dd_Mo_push_141 (kk := ?_)
                refine gx_if_ge C 224 dd_Mo_push_142 (fun h142 => absurd (lc_ge.mp h142) (mf_fl (by omega))) (fun h142 => ?_)
                have ht0 := (hmn (x.1 % 16) (by omega)).1
                rcases hct : (on_of (σ.1 i)) (x.1 % 16) with _ | d
                · rw [hct] at ht0
                  have hpi : pu_i (on_of (σ.1 i)) x = none := by
                    unfold pu_i
                    rw [hcf, hct]
                  refine gx_aload_n C 1 dd_Mo_push_145 (kk := ?_)
                  refine mo_get C fd_Mo_50 dd_Mo_push_146 (kk := ?_)
                  refine gx_aload_n C 1 dd_Mo_push_149 (kk := ?_)
                  refine mo_get C fd_Mo_29 dd_Mo_push_150 (kk := ?_)
                  refine gx_iload_n C 0 dd_Mo_push_153 (kk := ?_)
                  refine mo_l50 C dd_Mo_push_154 (by omega) (kk := ?_)
                  refine gx_topi _ hxa.2.1 ?_
                  refine mo_l57 C dd_Mo_push_155 (by omega) (kk := ?_)
                  refine gx_topl (4000000000000000000) ht0 ?_
                  refine gx_ldc2 C dd_Mo_push_156 kc_Mo_129 (kk := ?_)
                  refine gx_lcmp C dd_Mo_push_159 (kk := ?_)
                  refine gx_if_ge C 224 dd_Mo_push_160 (fun h160 => ?_) (fun h160 => absurd (by decide) h160)
                  refine gx_iinc C 0 (nI (65 * i + (j + 1))) _ dd_Mo_push_224 (nI_1 _) (kk := ?_)
                  refine gx_goto C 112 dd_Mo_push_227 (kk := ?_)
                  exact ihj (j + 1) F1 L1 (by omega) (by rw [pu_ar_n hx hpi]; exact hM1) hw1 hmn (by rw [pu_ar_n hx hpi]; exact hso) (by rw [pu_ar_n hx hpi]; exact hab)
                · rw [hct] at ht0
                  have hdb := ((hmn (x.1 % 16) (by omega)).2 d hct).2
                  have hnn := pu_nn hok (on_of_fix hok) hxm hcf hct
                  have hpi : pu_i (on_of (σ.1 i)) x = some (x.1, x.2 + d / 32 - c / 32) := by
                    unfold pu_i
                    rw [hcf, hct]
                  refine gx_aload_n C 1 dd_Mo_push_145 (kk := ?_)
                  refine mo_get C fd_Mo_50 dd_Mo_push_146 (kk := ?_)
                  refine gx_aload_n C 1 dd_Mo_push_149 (kk := ?_)
                  refine mo_get C fd_Mo_29 dd_Mo_push_150 (kk := ?_)
                  refine gx_iload_n C 0 dd_Mo_push_153 (kk := ?_)
                  refine mo_l50 C dd_Mo_push_154 (by omega) (kk := ?_)
                  refine gx_topi _ hxa.2.1 ?_
                  refine mo_l57 C dd_Mo_push_155 (by omega) (kk := ?_)
                  refine gx_topl (lN (d / 32)) ht0 ?_
                  refine gx_ldc2 C dd_Mo_push_156 kc_Mo_129 (kk := ?_)
                  refine gx_lcmp C dd_Mo_push_159 (kk := ?_)
                  refine gx_if_ge C 224 dd_Mo_push_160 (fun h160 => absurd (lc_ge.mp h160) (mf_fl (by omega))) (fun h160 => ?_)
                  refine gx_aload_n C 1 dd_Mo_push_163 (kk := ?_)
                  refine gx_iconst (v := nI 4) C dd_Mo_push_164 (kk := ?_)
                  refine gx_aload_n C 1 dd_Mo_push_165 (kk := ?_)
                  refine mo_get C fd_Mo_26 dd_Mo_push_166 (kk := ?_)
                  refine gx_iload_n C 0 dd_Mo_push_169 (kk := ?_)
                  refine mo_l49 C dd_Mo_push_170 (by omega) (kk := ?_)
                  refine gx_topi _ hxa.1 ?_
                  refine gx_aload_n C 1 dd_Mo_push_171 (kk := ?_)
                  refine mo_get C fd_Mo_29 dd_Mo_push_172 (kk := ?_)
                  refine gx_iload_n C 0 dd_Mo_push_175 (kk := ?_)
                  refine mo_l50 C dd_Mo_push_176 (by omega) (kk := ?_)
                  refine gx_topi _ hxa.2.1 ?_
                  refine gx_aload_n C 1 dd_Mo_push_177 (kk := ?_)
                  refine mo_get C fd_Mo_32 dd_Mo_push_178 (kk := ?_)
                  refine gx_iload_n C 0 dd_Mo_push_181 (kk := ?_)
                  refine mo_l51 C dd_Mo_push_182 (by omega) (kk := ?_)
                  refine gx_topi _ hxa.2.2.1 ?_
                  refine gx_aload_n C 1 dd_Mo_push_183 (kk := ?_)
                  refine mo_get C fd_Mo_35 dd_Mo_push_184 (kk := ?_)
                  refine gx_iload_n C 0 dd_Mo_push_187 (kk := ?_)
                  refine mo_l52 C dd_Mo_push_188 (by omega) (kk := ?_)
                  refine gx_topi _ hxa.2.2.2.1 ?_
                  refine gx_aload_n C 1 dd_Mo_push_189 (kk := ?_)
                  refine mo_get C fd_Mo_38 dd_Mo_push_190 (kk := ?_)
                  refine gx_iload_n C 0 dd_Mo_push_193 (kk := ?_)
                  refine mo_l53 C dd_Mo_push_194 (by omega) (kk := ?_)
                  refine gx_topl _ hxa.2.2.2.2 ?_
                  refine gx_aload_n C 1 dd_Mo_push_195 (kk := ?_)
                  refine mo_get C fd_Mo_50 dd_Mo_push_196 (kk := ?_)
                  refine gx_aload_n C 1 dd_Mo_push_199 (kk := ?_)
                  refine mo_get C fd_Mo_29 dd_Mo_push_200 (kk := ?_)
                  refine gx_iload_n C 0 dd_Mo_push_203 (kk := ?_)
                  refine mo_l50 C dd_Mo_push_204 (by omega) (kk := ?_)
                  refine gx_topi _ hxa.2.1 ?_
                  refine mo_l57 C dd_Mo_push_205 (by omega) (kk := ?_)
                  refine gx_topl (lN (d / 32)) ht0 ?_
                  refine gx_ladd C dd_Mo_push_206 (kk := ?_)
                  refine gx_topl _ (lN_add _ _) ?_
                  refine gx_aload_n C 1 dd_Mo_push_207 (kk := ?_)
                  refine mo_get C fd_Mo_50 dd_Mo_push_208 (kk := ?_)
                  refine gx_aload_n C 1 dd_Mo_push_211 (kk := ?_)
                  refine mo_get C fd_Mo_26 dd_Mo_push_212 (kk := ?_)
                  refine gx_iload_n C 0 dd_Mo_push_215 (kk := ?_)
                  refine mo_l49 C dd_Mo_push_216 (by omega) (kk := ?_)
                  refine gx_topi _ hxa.1 ?_
                  refine mo_l57 C dd_Mo_push_217 (by omega) (kk := ?_)
                  refine gx_topl (lN (c / 32)) hf0 ?_
                  refine gx_lsub C dd_Mo_push_218 (kk := ?_)
                  refine gx_topl (lN (x.2 + d / 32 - c / 32)) (lN_sub hnn) ?_
                  refine gx_callV C (ct_Mo_put (gx_l K) D dA ad h F1 L1 S (s := 4) (f := x.1 / 1024) (t := x.1 % 16) (i := x.1 / 128 % 8) (o := x.1 / 16 % 8) (x0 := x.2 + d / 32 - c / 32) (B := 35184372088832) (a := (am_n (σ.1 i), pu_st (σ.1 i) (on_of (σ.1 i)), (fun _ => none), pu_ar (on_of (σ.1 i)) (am_ar (σ.1 i)) j)) (by decide) hM1 hso (fun z hz => (hab z hz).1) (fun z hz => (hab z hz).2) (by decide) (by omega) (by omega) (by omega) (by omega) (by omega)) me_Mo_put ml_Mo_99 mn_Mo_put _ (gx_w_at (by decide) mo_h_43) rfl dd_Mo_push_219 (kk := fun v w hq => ?_)
                  rw [show pr_k (x.1 / 1024) (x.1 / 128 % 8) (x.1 / 16 % 8) (x.1 % 16) = x.1 by unfold pr_k; omega] at hq
                  rcases hq with ⟨hr3, rfl, F3, L3, rfl, hM3, hf3⟩ | ⟨hr3, rfl, rfl⟩
                  · refine gx_istore C _ dd_Mo_push_222 (kk := ?_)
                    refine gx_iinc C 1 (nI (65 * i + (j + 1))) _ dd_Mo_push_224 (nI_1 _) (kk := ?_)
                    refine gx_goto C 112 dd_Mo_push_227 (kk := ?_)
                    refine gx_loc [0, 2, 3, 4] ?_
                    exact ihj (j + 1) F3 L3 (by omega) (by rw [pu_ar_y hx hpi, mk_br, if_pos hr3]; exact hM3) (mo_w_tr hw1 (mo_w_fr hf3)) (mn_ok_k (hf3.2.2.2 58 (by decide)).1 (hf3.2.2.2 57 (by decide)).2 hmn) (by rw [pu_ar_y hx hpi]; exact mb_brs hso) (by rw [pu_ar_y hx hpi]; exact mb_brb hab (by omega) (by show x.2 + d / 32 - c / 32 < _; omega))
                  · refine gx_istore C _ dd_Mo_push_222 (kk := ?_)
                    refine gx_iinc C 1 (nI (65 * i + (j + 1))) _ dd_Mo_push_224 (nI_1 _) (kk := ?_)
                    refine gx_goto C 112 dd_Mo_push_227 (kk := ?_)
                    refine gx_loc [0, 2, 3, 4] ?_
                    exact ihj (j + 1) F1 L1 (by omega) (by rw [pu_ar_y hx hpi, mk_br, if_neg (by rw [hr3]; decide)]; exact hM1) hw1 hmn (by rw [pu_ar_y hx hpi]; exact mb_brs hso) (by rw [pu_ar_y hx hpi]; exact mb_brb hab (by omega) (by show x.2 + d / 32 - c / 32 < _; omega))
          exact arcs (am_ar (σ.1 i)).length 0 F43 L106 (by omega) hM6 (mo_w_tr hw5 (mo_w_fr (mo_fr_46 hL106))) (mn_ok_k rfl (by rw [hL106, gm_un (by decide)]) hmn5) List.Pairwise.nil (fun x hx => absurd hx List.not_mem_nil)
