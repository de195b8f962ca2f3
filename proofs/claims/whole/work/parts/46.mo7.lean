theorem dd_Mo_spread_0 : decode cc_Mo_spread 0 = .ok (.iconst 0, 1) := by decide +kernel
theorem dd_Mo_spread_1 : decode cc_Mo_spread 1 = .ok (.istore_n 3, 1) := by decide +kernel
theorem dd_Mo_spread_2 : decode cc_Mo_spread 2 = .ok (.iload_n 3, 1) := by decide +kernel
theorem dd_Mo_spread_3 : decode cc_Mo_spread 3 = .ok (.bipush 16, 2) := by decide +kernel
theorem dd_Mo_spread_5 : decode cc_Mo_spread 5 = .ok (.if_icmp .ge 27, 3) := by decide +kernel
theorem dd_Mo_spread_8 : decode cc_Mo_spread 8 = .ok (.aload_n 0, 1) := by decide +kernel
theorem dd_Mo_spread_9 : decode cc_Mo_spread 9 = .ok (.getfield 50, 3) := by decide +kernel
theorem dd_Mo_spread_12 : decode cc_Mo_spread 12 = .ok (.iload_n 3, 1) := by decide +kernel
theorem dd_Mo_spread_13 : decode cc_Mo_spread 13 = .ok (.iload_n 3, 1) := by decide +kernel
theorem dd_Mo_spread_14 : decode cc_Mo_spread 14 = .ok (.iload_n 2, 1) := by decide +kernel
theorem dd_Mo_spread_15 : decode cc_Mo_spread 15 = .ok (.if_icmp .ne 7, 3) := by decide +kernel
theorem dd_Mo_spread_18 : decode cc_Mo_spread 18 = .ok (.lconst 0, 1) := by decide +kernel
theorem dd_Mo_spread_19 : decode cc_Mo_spread 19 = .ok (.goto 6, 3) := by decide +kernel
theorem dd_Mo_spread_22 : decode cc_Mo_spread 22 = .ok (.ldc2_w 129, 3) := by decide +kernel
theorem dd_Mo_spread_25 : decode cc_Mo_spread 25 = .ok (.lastore, 1) := by decide +kernel
theorem dd_Mo_spread_26 : decode cc_Mo_spread 26 = .ok (.iinc 3 1, 3) := by decide +kernel
theorem dd_Mo_spread_29 : decode cc_Mo_spread 29 = .ok (.goto (-27), 3) := by decide +kernel
theorem dd_Mo_spread_32 : decode cc_Mo_spread 32 = .ok (.iconst 0, 1) := by decide +kernel
theorem dd_Mo_spread_33 : decode cc_Mo_spread 33 = .ok (.istore_n 3, 1) := by decide +kernel
theorem dd_Mo_spread_34 : decode cc_Mo_spread 34 = .ok (.iload_n 3, 1) := by decide +kernel
theorem dd_Mo_spread_35 : decode cc_Mo_spread 35 = .ok (.bipush 16, 2) := by decide +kernel
theorem dd_Mo_spread_37 : decode cc_Mo_spread 37 = .ok (.if_icmp .ge 163, 3) := by decide +kernel
theorem dd_Mo_spread_40 : decode cc_Mo_spread 40 = .ok (.bipush 65, 2) := by decide +kernel
theorem dd_Mo_spread_42 : decode cc_Mo_spread 42 = .ok (.iload_n 1, 1) := by decide +kernel
theorem dd_Mo_spread_43 : decode cc_Mo_spread 43 = .ok (.imul, 1) := by decide +kernel
theorem dd_Mo_spread_44 : decode cc_Mo_spread 44 = .ok (.istore 4, 2) := by decide +kernel
theorem dd_Mo_spread_46 : decode cc_Mo_spread 46 = .ok (.iload 4, 2) := by decide +kernel
theorem dd_Mo_spread_48 : decode cc_Mo_spread 48 = .ok (.bipush 65, 2) := by decide +kernel
theorem dd_Mo_spread_50 : decode cc_Mo_spread 50 = .ok (.iload_n 1, 1) := by decide +kernel
theorem dd_Mo_spread_51 : decode cc_Mo_spread 51 = .ok (.imul, 1) := by decide +kernel
theorem dd_Mo_spread_52 : decode cc_Mo_spread 52 = .ok (.aload_n 0, 1) := by decide +kernel
theorem dd_Mo_spread_53 : decode cc_Mo_spread 53 = .ok (.getfield 23, 3) := by decide +kernel
theorem dd_Mo_spread_56 : decode cc_Mo_spread 56 = .ok (.iload_n 1, 1) := by decide +kernel
theorem dd_Mo_spread_57 : decode cc_Mo_spread 57 = .ok (.iaload, 1) := by decide +kernel
theorem dd_Mo_spread_58 : decode cc_Mo_spread 58 = .ok (.iadd, 1) := by decide +kernel
theorem dd_Mo_spread_59 : decode cc_Mo_spread 59 = .ok (.if_icmp .ge 135, 3) := by decide +kernel
theorem dd_Mo_spread_62 : decode cc_Mo_spread 62 = .ok (.aload_n 0, 1) := by decide +kernel
theorem dd_Mo_spread_63 : decode cc_Mo_spread 63 = .ok (.getfield 32, 3) := by decide +kernel
theorem dd_Mo_spread_66 : decode cc_Mo_spread 66 = .ok (.iload 4, 2) := by decide +kernel
theorem dd_Mo_spread_68 : decode cc_Mo_spread 68 = .ok (.iaload, 1) := by decide +kernel
theorem dd_Mo_spread_69 : decode cc_Mo_spread 69 = .ok (.ifCond .ne 36, 3) := by decide +kernel
theorem dd_Mo_spread_72 : decode cc_Mo_spread 72 = .ok (.aload_n 0, 1) := by decide +kernel
theorem dd_Mo_spread_73 : decode cc_Mo_spread 73 = .ok (.getfield 35, 3) := by decide +kernel
theorem dd_Mo_spread_76 : decode cc_Mo_spread 76 = .ok (.iload 4, 2) := by decide +kernel
theorem dd_Mo_spread_78 : decode cc_Mo_spread 78 = .ok (.iaload, 1) := by decide +kernel
theorem dd_Mo_spread_79 : decode cc_Mo_spread 79 = .ok (.ifCond .ne 26, 3) := by decide +kernel
theorem dd_Mo_spread_82 : decode cc_Mo_spread 82 = .ok (.aload_n 0, 1) := by decide +kernel
theorem dd_Mo_spread_83 : decode cc_Mo_spread 83 = .ok (.getfield 50, 3) := by decide +kernel
theorem dd_Mo_spread_86 : decode cc_Mo_spread 86 = .ok (.aload_n 0, 1) := by decide +kernel
theorem dd_Mo_spread_87 : decode cc_Mo_spread 87 = .ok (.getfield 26, 3) := by decide +kernel
theorem dd_Mo_spread_90 : decode cc_Mo_spread 90 = .ok (.iload 4, 2) := by decide +kernel
theorem dd_Mo_spread_92 : decode cc_Mo_spread 92 = .ok (.iaload, 1) := by decide +kernel
theorem dd_Mo_spread_93 : decode cc_Mo_spread 93 = .ok (.laload, 1) := by decide +kernel
theorem dd_Mo_spread_94 : decode cc_Mo_spread 94 = .ok (.ldc2_w 129, 3) := by decide +kernel
theorem dd_Mo_spread_97 : decode cc_Mo_spread 97 = .ok (.lcmp, 1) := by decide +kernel
theorem dd_Mo_spread_98 : decode cc_Mo_spread 98 = .ok (.ifCond .ge 7, 3) := by decide +kernel
theorem dd_Mo_spread_101 : decode cc_Mo_spread 101 = .ok (.iconst 1, 1) := by decide +kernel
theorem dd_Mo_spread_102 : decode cc_Mo_spread 102 = .ok (.goto 4, 3) := by decide +kernel
theorem dd_Mo_spread_105 : decode cc_Mo_spread 105 = .ok (.iconst 0, 1) := by decide +kernel
theorem dd_Mo_spread_106 : decode cc_Mo_spread 106 = .ok (.istore 5, 2) := by decide +kernel
theorem dd_Mo_spread_108 : decode cc_Mo_spread 108 = .ok (.iload 5, 2) := by decide +kernel
theorem dd_Mo_spread_110 : decode cc_Mo_spread 110 = .ok (.ifCond .eq 26, 3) := by decide +kernel
theorem dd_Mo_spread_113 : decode cc_Mo_spread 113 = .ok (.aload_n 0, 1) := by decide +kernel
theorem dd_Mo_spread_114 : decode cc_Mo_spread 114 = .ok (.getfield 50, 3) := by decide +kernel
theorem dd_Mo_spread_117 : decode cc_Mo_spread 117 = .ok (.aload_n 0, 1) := by decide +kernel
theorem dd_Mo_spread_118 : decode cc_Mo_spread 118 = .ok (.getfield 26, 3) := by decide +kernel
theorem dd_Mo_spread_121 : decode cc_Mo_spread 121 = .ok (.iload 4, 2) := by decide +kernel
theorem dd_Mo_spread_123 : decode cc_Mo_spread 123 = .ok (.iaload, 1) := by decide +kernel
theorem dd_Mo_spread_124 : decode cc_Mo_spread 124 = .ok (.laload, 1) := by decide +kernel
theorem dd_Mo_spread_125 : decode cc_Mo_spread 125 = .ok (.aload_n 0, 1) := by decide +kernel
theorem dd_Mo_spread_126 : decode cc_Mo_spread 126 = .ok (.getfield 38, 3) := by decide +kernel
theorem dd_Mo_spread_129 : decode cc_Mo_spread 129 = .ok (.iload 4, 2) := by decide +kernel
theorem dd_Mo_spread_131 : decode cc_Mo_spread 131 = .ok (.laload, 1) := by decide +kernel
theorem dd_Mo_spread_132 : decode cc_Mo_spread 132 = .ok (.ladd, 1) := by decide +kernel
theorem dd_Mo_spread_133 : decode cc_Mo_spread 133 = .ok (.goto 6, 3) := by decide +kernel
theorem dd_Mo_spread_136 : decode cc_Mo_spread 136 = .ok (.ldc2_w 129, 3) := by decide +kernel
theorem dd_Mo_spread_139 : decode cc_Mo_spread 139 = .ok (.lstore 6, 2) := by decide +kernel
theorem dd_Mo_spread_141 : decode cc_Mo_spread 141 = .ok (.aload_n 0, 1) := by decide +kernel
theorem dd_Mo_spread_142 : decode cc_Mo_spread 142 = .ok (.getfield 50, 3) := by decide +kernel
theorem dd_Mo_spread_145 : decode cc_Mo_spread 145 = .ok (.aload_n 0, 1) := by decide +kernel
theorem dd_Mo_spread_146 : decode cc_Mo_spread 146 = .ok (.getfield 29, 3) := by decide +kernel
theorem dd_Mo_spread_149 : decode cc_Mo_spread 149 = .ok (.iload 4, 2) := by decide +kernel
theorem dd_Mo_spread_151 : decode cc_Mo_spread 151 = .ok (.iaload, 1) := by decide +kernel
theorem dd_Mo_spread_152 : decode cc_Mo_spread 152 = .ok (.lload 6, 2) := by decide +kernel
theorem dd_Mo_spread_154 : decode cc_Mo_spread 154 = .ok (.aload_n 0, 1) := by decide +kernel
theorem dd_Mo_spread_155 : decode cc_Mo_spread 155 = .ok (.getfield 50, 3) := by decide +kernel
theorem dd_Mo_spread_158 : decode cc_Mo_spread 158 = .ok (.aload_n 0, 1) := by decide +kernel
theorem dd_Mo_spread_159 : decode cc_Mo_spread 159 = .ok (.getfield 29, 3) := by decide +kernel
theorem dd_Mo_spread_162 : decode cc_Mo_spread 162 = .ok (.iload 4, 2) := by decide +kernel
theorem dd_Mo_spread_164 : decode cc_Mo_spread 164 = .ok (.iaload, 1) := by decide +kernel
theorem dd_Mo_spread_165 : decode cc_Mo_spread 165 = .ok (.laload, 1) := by decide +kernel
theorem dd_Mo_spread_166 : decode cc_Mo_spread 166 = .ok (.lcmp, 1) := by decide +kernel
theorem dd_Mo_spread_167 : decode cc_Mo_spread 167 = .ok (.ifCond .ge 8, 3) := by decide +kernel
theorem dd_Mo_spread_170 : decode cc_Mo_spread 170 = .ok (.lload 6, 2) := by decide +kernel
theorem dd_Mo_spread_172 : decode cc_Mo_spread 172 = .ok (.goto 15, 3) := by decide +kernel
theorem dd_Mo_spread_175 : decode cc_Mo_spread 175 = .ok (.aload_n 0, 1) := by decide +kernel
theorem dd_Mo_spread_176 : decode cc_Mo_spread 176 = .ok (.getfield 50, 3) := by decide +kernel
theorem dd_Mo_spread_179 : decode cc_Mo_spread 179 = .ok (.aload_n 0, 1) := by decide +kernel
theorem dd_Mo_spread_180 : decode cc_Mo_spread 180 = .ok (.getfield 29, 3) := by decide +kernel
theorem dd_Mo_spread_183 : decode cc_Mo_spread 183 = .ok (.iload 4, 2) := by decide +kernel
theorem dd_Mo_spread_185 : decode cc_Mo_spread 185 = .ok (.iaload, 1) := by decide +kernel
theorem dd_Mo_spread_186 : decode cc_Mo_spread 186 = .ok (.laload, 1) := by decide +kernel
theorem dd_Mo_spread_187 : decode cc_Mo_spread 187 = .ok (.lastore, 1) := by decide +kernel
theorem dd_Mo_spread_188 : decode cc_Mo_spread 188 = .ok (.iinc 4 1, 3) := by decide +kernel
theorem dd_Mo_spread_191 : decode cc_Mo_spread 191 = .ok (.goto (-145), 3) := by decide +kernel
theorem dd_Mo_spread_194 : decode cc_Mo_spread 194 = .ok (.iinc 3 1, 3) := by decide +kernel
theorem dd_Mo_spread_197 : decode cc_Mo_spread 197 = .ok (.goto (-163), 3) := by decide +kernel
theorem dd_Mo_spread_200 : decode cc_Mo_spread 200 = .ok (.return_, 1) := by decide +kernel
theorem dd_Mo_bare_0 : decode cc_Mo_bare 0 = .ok (.iload_n 1, 1) := by decide +kernel
theorem dd_Mo_bare_1 : decode cc_Mo_bare 1 = .ok (.invokestatic 81, 3) := by decide +kernel
theorem dd_Mo_bare_4 : decode cc_Mo_bare 4 = .ok (.ifCond .eq 10, 3) := by decide +kernel
theorem dd_Mo_bare_7 : decode cc_Mo_bare 7 = .ok (.iload_n 2, 1) := by decide +kernel
theorem dd_Mo_bare_8 : decode cc_Mo_bare 8 = .ok (.invokestatic 81, 3) := by decide +kernel
theorem dd_Mo_bare_11 : decode cc_Mo_bare 11 = .ok (.ifCond .ne 5, 3) := by decide +kernel
theorem dd_Mo_bare_14 : decode cc_Mo_bare 14 = .ok (.iconst (-1), 1) := by decide +kernel
theorem dd_Mo_bare_15 : decode cc_Mo_bare 15 = .ok (.ireturn, 1) := by decide +kernel
theorem dd_Mo_bare_16 : decode cc_Mo_bare 16 = .ok (.aload_n 0, 1) := by decide +kernel
theorem dd_Mo_bare_17 : decode cc_Mo_bare 17 = .ok (.iconst 4, 1) := by decide +kernel
theorem dd_Mo_bare_18 : decode cc_Mo_bare 18 = .ok (.aload_n 0, 1) := by decide +kernel
theorem dd_Mo_bare_19 : decode cc_Mo_bare 19 = .ok (.getfield 7, 3) := by decide +kernel
theorem dd_Mo_bare_22 : decode cc_Mo_bare 22 = .ok (.iload_n 1, 1) := by decide +kernel
theorem dd_Mo_bare_23 : decode cc_Mo_bare 23 = .ok (.iaload, 1) := by decide +kernel
theorem dd_Mo_bare_24 : decode cc_Mo_bare 24 = .ok (.invokevirtual 75, 3) := by decide +kernel
theorem dd_Mo_bare_27 : decode cc_Mo_bare 27 = .ok (.aload_n 0, 1) := by decide +kernel
theorem dd_Mo_bare_28 : decode cc_Mo_bare 28 = .ok (.getfield 13, 3) := by decide +kernel
theorem dd_Mo_bare_31 : decode cc_Mo_bare 31 = .ok (.iconst 4, 1) := by decide +kernel
theorem dd_Mo_bare_32 : decode cc_Mo_bare 32 = .ok (.aload_n 0, 1) := by decide +kernel
theorem dd_Mo_bare_33 : decode cc_Mo_bare 33 = .ok (.getfield 13, 3) := by decide +kernel
theorem dd_Mo_bare_36 : decode cc_Mo_bare 36 = .ok (.iload_n 1, 1) := by decide +kernel
theorem dd_Mo_bare_37 : decode cc_Mo_bare 37 = .ok (.iaload, 1) := by decide +kernel
theorem dd_Mo_bare_38 : decode cc_Mo_bare 38 = .ok (.iastore, 1) := by decide +kernel
theorem dd_Mo_bare_39 : decode cc_Mo_bare 39 = .ok (.aload_n 0, 1) := by decide +kernel
theorem dd_Mo_bare_40 : decode cc_Mo_bare 40 = .ok (.getfield 16, 3) := by decide +kernel
theorem dd_Mo_bare_43 : decode cc_Mo_bare 43 = .ok (.iconst 4, 1) := by decide +kernel
theorem dd_Mo_bare_44 : decode cc_Mo_bare 44 = .ok (.aload_n 0, 1) := by decide +kernel
theorem dd_Mo_bare_45 : decode cc_Mo_bare 45 = .ok (.getfield 16, 3) := by decide +kernel
theorem dd_Mo_bare_48 : decode cc_Mo_bare 48 = .ok (.iload_n 1, 1) := by decide +kernel
theorem dd_Mo_bare_49 : decode cc_Mo_bare 49 = .ok (.laload, 1) := by decide +kernel
theorem dd_Mo_bare_50 : decode cc_Mo_bare 50 = .ok (.lastore, 1) := by decide +kernel
theorem dd_Mo_bare_51 : decode cc_Mo_bare 51 = .ok (.iconst 0, 1) := by decide +kernel
theorem dd_Mo_bare_52 : decode cc_Mo_bare 52 = .ok (.istore_n 3, 1) := by decide +kernel
theorem dd_Mo_bare_53 : decode cc_Mo_bare 53 = .ok (.iload_n 3, 1) := by decide +kernel
theorem dd_Mo_bare_54 : decode cc_Mo_bare 54 = .ok (.aload_n 0, 1) := by decide +kernel
theorem dd_Mo_bare_55 : decode cc_Mo_bare 55 = .ok (.getfield 7, 3) := by decide +kernel
theorem dd_Mo_bare_58 : decode cc_Mo_bare 58 = .ok (.iload_n 1, 1) := by decide +kernel
theorem dd_Mo_bare_59 : decode cc_Mo_bare 59 = .ok (.iaload, 1) := by decide +kernel
theorem dd_Mo_bare_60 : decode cc_Mo_bare 60 = .ok (.if_icmp .ge 274, 3) := by decide +kernel
theorem dd_Mo_bare_63 : decode cc_Mo_bare 63 = .ok (.aload_n 0, 1) := by decide +kernel
theorem dd_Mo_bare_64 : decode cc_Mo_bare 64 = .ok (.iload_n 1, 1) := by decide +kernel
theorem dd_Mo_bare_65 : decode cc_Mo_bare 65 = .ok (.iload_n 3, 1) := by decide +kernel
theorem dd_Mo_bare_66 : decode cc_Mo_bare 66 = .ok (.invokevirtual 131, 3) := by decide +kernel
theorem dd_Mo_bare_69 : decode cc_Mo_bare 69 = .ok (.bipush 65, 2) := by decide +kernel
theorem dd_Mo_bare_71 : decode cc_Mo_bare 71 = .ok (.iload_n 1, 1) := by decide +kernel
theorem dd_Mo_bare_72 : decode cc_Mo_bare 72 = .ok (.imul, 1) := by decide +kernel
theorem dd_Mo_bare_73 : decode cc_Mo_bare 73 = .ok (.istore 4, 2) := by decide +kernel
theorem dd_Mo_bare_75 : decode cc_Mo_bare 75 = .ok (.iload 4, 2) := by decide +kernel
theorem dd_Mo_bare_77 : decode cc_Mo_bare 77 = .ok (.bipush 65, 2) := by decide +kernel
theorem dd_Mo_bare_79 : decode cc_Mo_bare 79 = .ok (.iload_n 1, 1) := by decide +kernel
theorem dd_Mo_bare_80 : decode cc_Mo_bare 80 = .ok (.imul, 1) := by decide +kernel
theorem dd_Mo_bare_81 : decode cc_Mo_bare 81 = .ok (.aload_n 0, 1) := by decide +kernel
theorem dd_Mo_bare_82 : decode cc_Mo_bare 82 = .ok (.getfield 23, 3) := by decide +kernel
theorem dd_Mo_bare_85 : decode cc_Mo_bare 85 = .ok (.iload_n 1, 1) := by decide +kernel
theorem dd_Mo_bare_86 : decode cc_Mo_bare 86 = .ok (.iaload, 1) := by decide +kernel
theorem dd_Mo_bare_87 : decode cc_Mo_bare 87 = .ok (.iadd, 1) := by decide +kernel
theorem dd_Mo_bare_88 : decode cc_Mo_bare 88 = .ok (.if_icmp .ge 113, 3) := by decide +kernel
theorem dd_Mo_bare_91 : decode cc_Mo_bare 91 = .ok (.aload_n 0, 1) := by decide +kernel
theorem dd_Mo_bare_92 : decode cc_Mo_bare 92 = .ok (.getfield 32, 3) := by decide +kernel
theorem dd_Mo_bare_95 : decode cc_Mo_bare 95 = .ok (.iload 4, 2) := by decide +kernel
theorem dd_Mo_bare_97 : decode cc_Mo_bare 97 = .ok (.iaload, 1) := by decide +kernel
theorem dd_Mo_bare_98 : decode cc_Mo_bare 98 = .ok (.ifCond .ne 13, 3) := by decide +kernel
theorem dd_Mo_bare_101 : decode cc_Mo_bare 101 = .ok (.aload_n 0, 1) := by decide +kernel
theorem dd_Mo_bare_102 : decode cc_Mo_bare 102 = .ok (.getfield 35, 3) := by decide +kernel
theorem dd_Mo_bare_105 : decode cc_Mo_bare 105 = .ok (.iload 4, 2) := by decide +kernel
theorem dd_Mo_bare_107 : decode cc_Mo_bare 107 = .ok (.iaload, 1) := by decide +kernel
theorem dd_Mo_bare_108 : decode cc_Mo_bare 108 = .ok (.ifCond .eq 26, 3) := by decide +kernel
theorem dd_Mo_bare_111 : decode cc_Mo_bare 111 = .ok (.aload_n 0, 1) := by decide +kernel
theorem dd_Mo_bare_112 : decode cc_Mo_bare 112 = .ok (.getfield 50, 3) := by decide +kernel
theorem dd_Mo_bare_115 : decode cc_Mo_bare 115 = .ok (.aload_n 0, 1) := by decide +kernel
theorem dd_Mo_bare_116 : decode cc_Mo_bare 116 = .ok (.getfield 26, 3) := by decide +kernel
theorem dd_Mo_bare_119 : decode cc_Mo_bare 119 = .ok (.iload 4, 2) := by decide +kernel
theorem dd_Mo_bare_121 : decode cc_Mo_bare 121 = .ok (.iaload, 1) := by decide +kernel
theorem dd_Mo_bare_122 : decode cc_Mo_bare 122 = .ok (.laload, 1) := by decide +kernel
theorem dd_Mo_bare_123 : decode cc_Mo_bare 123 = .ok (.ldc2_w 129, 3) := by decide +kernel
theorem dd_Mo_bare_126 : decode cc_Mo_bare 126 = .ok (.lcmp, 1) := by decide +kernel
theorem dd_Mo_bare_127 : decode cc_Mo_bare 127 = .ok (.ifCond .ge 7, 3) := by decide +kernel
theorem dd_Mo_bare_130 : decode cc_Mo_bare 130 = .ok (.iconst 1, 1) := by decide +kernel
theorem dd_Mo_bare_131 : decode cc_Mo_bare 131 = .ok (.goto 4, 3) := by decide +kernel
theorem dd_Mo_bare_134 : decode cc_Mo_bare 134 = .ok (.iconst 0, 1) := by decide +kernel
theorem dd_Mo_bare_135 : decode cc_Mo_bare 135 = .ok (.istore 5, 2) := by decide +kernel
theorem dd_Mo_bare_137 : decode cc_Mo_bare 137 = .ok (.iload 5, 2) := by decide +kernel
theorem dd_Mo_bare_139 : decode cc_Mo_bare 139 = .ok (.ifCond .eq 56, 3) := by decide +kernel
theorem dd_Mo_bare_142 : decode cc_Mo_bare 142 = .ok (.aload_n 0, 1) := by decide +kernel
theorem dd_Mo_bare_143 : decode cc_Mo_bare 143 = .ok (.iconst 4, 1) := by decide +kernel
theorem dd_Mo_bare_144 : decode cc_Mo_bare 144 = .ok (.iload_n 3, 1) := by decide +kernel
theorem dd_Mo_bare_145 : decode cc_Mo_bare 145 = .ok (.aload_n 0, 1) := by decide +kernel
theorem dd_Mo_bare_146 : decode cc_Mo_bare 146 = .ok (.getfield 29, 3) := by decide +kernel
theorem dd_Mo_bare_149 : decode cc_Mo_bare 149 = .ok (.iload 4, 2) := by decide +kernel
theorem dd_Mo_bare_151 : decode cc_Mo_bare 151 = .ok (.iaload, 1) := by decide +kernel
theorem dd_Mo_bare_152 : decode cc_Mo_bare 152 = .ok (.aload_n 0, 1) := by decide +kernel
theorem dd_Mo_bare_153 : decode cc_Mo_bare 153 = .ok (.getfield 32, 3) := by decide +kernel
theorem dd_Mo_bare_156 : decode cc_Mo_bare 156 = .ok (.iload 4, 2) := by decide +kernel
theorem dd_Mo_bare_158 : decode cc_Mo_bare 158 = .ok (.iaload, 1) := by decide +kernel
theorem dd_Mo_bare_159 : decode cc_Mo_bare 159 = .ok (.aload_n 0, 1) := by decide +kernel
theorem dd_Mo_bare_160 : decode cc_Mo_bare 160 = .ok (.getfield 35, 3) := by decide +kernel
theorem dd_Mo_bare_163 : decode cc_Mo_bare 163 = .ok (.iload 4, 2) := by decide +kernel
theorem dd_Mo_bare_165 : decode cc_Mo_bare 165 = .ok (.iaload, 1) := by decide +kernel
theorem dd_Mo_bare_166 : decode cc_Mo_bare 166 = .ok (.aload_n 0, 1) := by decide +kernel
theorem dd_Mo_bare_167 : decode cc_Mo_bare 167 = .ok (.getfield 50, 3) := by decide +kernel
theorem dd_Mo_bare_170 : decode cc_Mo_bare 170 = .ok (.aload_n 0, 1) := by decide +kernel
theorem dd_Mo_bare_171 : decode cc_Mo_bare 171 = .ok (.getfield 26, 3) := by decide +kernel
theorem dd_Mo_bare_174 : decode cc_Mo_bare 174 = .ok (.iload 4, 2) := by decide +kernel
theorem dd_Mo_bare_176 : decode cc_Mo_bare 176 = .ok (.iaload, 1) := by decide +kernel
theorem dd_Mo_bare_177 : decode cc_Mo_bare 177 = .ok (.laload, 1) := by decide +kernel
theorem dd_Mo_bare_178 : decode cc_Mo_bare 178 = .ok (.aload_n 0, 1) := by decide +kernel
theorem dd_Mo_bare_179 : decode cc_Mo_bare 179 = .ok (.getfield 38, 3) := by decide +kernel
theorem dd_Mo_bare_182 : decode cc_Mo_bare 182 = .ok (.iload 4, 2) := by decide +kernel
theorem dd_Mo_bare_184 : decode cc_Mo_bare 184 = .ok (.laload, 1) := by decide +kernel
theorem dd_Mo_bare_185 : decode cc_Mo_bare 185 = .ok (.ladd, 1) := by decide +kernel
theorem dd_Mo_bare_186 : decode cc_Mo_bare 186 = .ok (.invokevirtual 99, 3) := by decide +kernel
theorem dd_Mo_bare_189 : decode cc_Mo_bare 189 = .ok (.ifCond .ne 6, 3) := by decide +kernel
theorem dd_Mo_bare_192 : decode cc_Mo_bare 192 = .ok (.bipush (-2), 2) := by decide +kernel
theorem dd_Mo_bare_194 : decode cc_Mo_bare 194 = .ok (.ireturn, 1) := by decide +kernel
theorem dd_Mo_bare_195 : decode cc_Mo_bare 195 = .ok (.iinc 4 1, 3) := by decide +kernel
theorem dd_Mo_bare_198 : decode cc_Mo_bare 198 = .ok (.goto (-123), 3) := by decide +kernel
theorem dd_Mo_bare_201 : decode cc_Mo_bare 201 = .ok (.ldc2_w 129, 3) := by decide +kernel
theorem dd_Mo_bare_204 : decode cc_Mo_bare 204 = .ok (.lstore 4, 2) := by decide +kernel
theorem dd_Mo_bare_206 : decode cc_Mo_bare 206 = .ok (.iconst 0, 1) := by decide +kernel
theorem dd_Mo_bare_207 : decode cc_Mo_bare 207 = .ok (.istore 6, 2) := by decide +kernel
theorem dd_Mo_bare_209 : decode cc_Mo_bare 209 = .ok (.iload 6, 2) := by decide +kernel
theorem dd_Mo_bare_211 : decode cc_Mo_bare 211 = .ok (.aload_n 0, 1) := by decide +kernel
theorem dd_Mo_bare_212 : decode cc_Mo_bare 212 = .ok (.getfield 7, 3) := by decide +kernel
theorem dd_Mo_bare_215 : decode cc_Mo_bare 215 = .ok (.iload_n 1, 1) := by decide +kernel
theorem dd_Mo_bare_216 : decode cc_Mo_bare 216 = .ok (.iaload, 1) := by decide +kernel
theorem dd_Mo_bare_217 : decode cc_Mo_bare 217 = .ok (.if_icmp .ge 85, 3) := by decide +kernel
theorem dd_Mo_bare_220 : decode cc_Mo_bare 220 = .ok (.aload_n 0, 1) := by decide +kernel
theorem dd_Mo_bare_221 : decode cc_Mo_bare 221 = .ok (.getfield 50, 3) := by decide +kernel
theorem dd_Mo_bare_224 : decode cc_Mo_bare 224 = .ok (.iload 6, 2) := by decide +kernel
theorem dd_Mo_bare_226 : decode cc_Mo_bare 226 = .ok (.laload, 1) := by decide +kernel
theorem dd_Mo_bare_227 : decode cc_Mo_bare 227 = .ok (.ldc2_w 129, 3) := by decide +kernel
theorem dd_Mo_bare_230 : decode cc_Mo_bare 230 = .ok (.lcmp, 1) := by decide +kernel
theorem dd_Mo_bare_231 : decode cc_Mo_bare 231 = .ok (.ifCond .ge 43, 3) := by decide +kernel
theorem dd_Mo_bare_234 : decode cc_Mo_bare 234 = .ok (.aload_n 0, 1) := by decide +kernel
theorem dd_Mo_bare_235 : decode cc_Mo_bare 235 = .ok (.getfield 20, 3) := by decide +kernel
theorem dd_Mo_bare_238 : decode cc_Mo_bare 238 = .ok (.bipush 16, 2) := by decide +kernel
theorem dd_Mo_bare_240 : decode cc_Mo_bare 240 = .ok (.iload_n 1, 1) := by decide +kernel
theorem dd_Mo_bare_241 : decode cc_Mo_bare 241 = .ok (.imul, 1) := by decide +kernel
theorem dd_Mo_bare_242 : decode cc_Mo_bare 242 = .ok (.iload 6, 2) := by decide +kernel
theorem dd_Mo_bare_244 : decode cc_Mo_bare 244 = .ok (.iadd, 1) := by decide +kernel
theorem dd_Mo_bare_245 : decode cc_Mo_bare 245 = .ok (.laload, 1) := by decide +kernel
theorem dd_Mo_bare_246 : decode cc_Mo_bare 246 = .ok (.lconst 0, 1) := by decide +kernel
theorem dd_Mo_bare_247 : decode cc_Mo_bare 247 = .ok (.lcmp, 1) := by decide +kernel
theorem dd_Mo_bare_248 : decode cc_Mo_bare 248 = .ok (.ifCond .lt 26, 3) := by decide +kernel
theorem dd_Mo_bare_251 : decode cc_Mo_bare 251 = .ok (.aload_n 0, 1) := by decide +kernel
theorem dd_Mo_bare_252 : decode cc_Mo_bare 252 = .ok (.getfield 50, 3) := by decide +kernel
theorem dd_Mo_bare_255 : decode cc_Mo_bare 255 = .ok (.iload 6, 2) := by decide +kernel
theorem dd_Mo_bare_257 : decode cc_Mo_bare 257 = .ok (.laload, 1) := by decide +kernel
theorem dd_Mo_bare_258 : decode cc_Mo_bare 258 = .ok (.aload_n 0, 1) := by decide +kernel
theorem dd_Mo_bare_259 : decode cc_Mo_bare 259 = .ok (.getfield 20, 3) := by decide +kernel
theorem dd_Mo_bare_262 : decode cc_Mo_bare 262 = .ok (.bipush 16, 2) := by decide +kernel
theorem dd_Mo_bare_264 : decode cc_Mo_bare 264 = .ok (.iload_n 1, 1) := by decide +kernel
theorem dd_Mo_bare_265 : decode cc_Mo_bare 265 = .ok (.imul, 1) := by decide +kernel
theorem dd_Mo_bare_266 : decode cc_Mo_bare 266 = .ok (.iload 6, 2) := by decide +kernel
theorem dd_Mo_bare_268 : decode cc_Mo_bare 268 = .ok (.iadd, 1) := by decide +kernel
theorem dd_Mo_bare_269 : decode cc_Mo_bare 269 = .ok (.laload, 1) := by decide +kernel
theorem dd_Mo_bare_270 : decode cc_Mo_bare 270 = .ok (.ladd, 1) := by decide +kernel
theorem dd_Mo_bare_271 : decode cc_Mo_bare 271 = .ok (.goto 6, 3) := by decide +kernel
theorem dd_Mo_bare_274 : decode cc_Mo_bare 274 = .ok (.ldc2_w 129, 3) := by decide +kernel
theorem dd_Mo_bare_277 : decode cc_Mo_bare 277 = .ok (.lstore 7, 2) := by decide +kernel
theorem dd_Mo_bare_279 : decode cc_Mo_bare 279 = .ok (.lload 7, 2) := by decide +kernel
theorem dd_Mo_bare_281 : decode cc_Mo_bare 281 = .ok (.lload 4, 2) := by decide +kernel
theorem dd_Mo_bare_283 : decode cc_Mo_bare 283 = .ok (.lcmp, 1) := by decide +kernel
theorem dd_Mo_bare_284 : decode cc_Mo_bare 284 = .ok (.ifCond .ge 8, 3) := by decide +kernel
theorem dd_Mo_bare_287 : decode cc_Mo_bare 287 = .ok (.lload 7, 2) := by decide +kernel
theorem dd_Mo_bare_289 : decode cc_Mo_bare 289 = .ok (.goto 5, 3) := by decide +kernel
theorem dd_Mo_bare_292 : decode cc_Mo_bare 292 = .ok (.lload 4, 2) := by decide +kernel
theorem dd_Mo_bare_294 : decode cc_Mo_bare 294 = .ok (.lstore 4, 2) := by decide +kernel
theorem dd_Mo_bare_296 : decode cc_Mo_bare 296 = .ok (.iinc 6 1, 3) := by decide +kernel
theorem dd_Mo_bare_299 : decode cc_Mo_bare 299 = .ok (.goto (-90), 3) := by decide +kernel
theorem dd_Mo_bare_302 : decode cc_Mo_bare 302 = .ok (.aload_n 0, 1) := by decide +kernel
theorem dd_Mo_bare_303 : decode cc_Mo_bare 303 = .ok (.getfield 20, 3) := by decide +kernel
theorem dd_Mo_bare_306 : decode cc_Mo_bare 306 = .ok (.bipush 64, 2) := by decide +kernel
theorem dd_Mo_bare_308 : decode cc_Mo_bare 308 = .ok (.iload_n 3, 1) := by decide +kernel
theorem dd_Mo_bare_309 : decode cc_Mo_bare 309 = .ok (.iadd, 1) := by decide +kernel
theorem dd_Mo_bare_310 : decode cc_Mo_bare 310 = .ok (.lload 4, 2) := by decide +kernel
theorem dd_Mo_bare_312 : decode cc_Mo_bare 312 = .ok (.ldc2_w 129, 3) := by decide +kernel
theorem dd_Mo_bare_315 : decode cc_Mo_bare 315 = .ok (.lcmp, 1) := by decide +kernel
theorem dd_Mo_bare_316 : decode cc_Mo_bare 316 = .ok (.ifCond .ge 8, 3) := by decide +kernel
theorem dd_Mo_bare_319 : decode cc_Mo_bare 319 = .ok (.lload 4, 2) := by decide +kernel
theorem dd_Mo_bare_321 : decode cc_Mo_bare 321 = .ok (.goto 6, 3) := by decide +kernel
theorem dd_Mo_bare_324 : decode cc_Mo_bare 324 = .ok (.ldc2_w 79, 3) := by decide +kernel
theorem dd_Mo_bare_327 : decode cc_Mo_bare 327 = .ok (.lastore, 1) := by decide +kernel
theorem dd_Mo_bare_328 : decode cc_Mo_bare 328 = .ok (.iinc 3 1, 3) := by decide +kernel
theorem dd_Mo_bare_331 : decode cc_Mo_bare 331 = .ok (.goto (-278), 3) := by decide +kernel
theorem dd_Mo_bare_334 : decode cc_Mo_bare 334 = .ok (.aload_n 0, 1) := by decide +kernel
theorem dd_Mo_bare_335 : decode cc_Mo_bare 335 = .ok (.iload_n 2, 1) := by decide +kernel
theorem dd_Mo_bare_336 : decode cc_Mo_bare 336 = .ok (.invokevirtual 126, 3) := by decide +kernel
theorem dd_Mo_bare_339 : decode cc_Mo_bare 339 = .ok (.ifCond .eq 12, 3) := by decide +kernel
theorem dd_Mo_bare_342 : decode cc_Mo_bare 342 = .ok (.aload_n 0, 1) := by decide +kernel
theorem dd_Mo_bare_343 : decode cc_Mo_bare 343 = .ok (.getfield 23, 3) := by decide +kernel
theorem dd_Mo_bare_346 : decode cc_Mo_bare 346 = .ok (.iload_n 2, 1) := by decide +kernel
theorem dd_Mo_bare_347 : decode cc_Mo_bare 347 = .ok (.iaload, 1) := by decide +kernel
theorem dd_Mo_bare_348 : decode cc_Mo_bare 348 = .ok (.goto 5, 3) := by decide +kernel
theorem dd_Mo_bare_351 : decode cc_Mo_bare 351 = .ok (.bipush (-2), 2) := by decide +kernel
theorem dd_Mo_bare_353 : decode cc_Mo_bare 353 = .ok (.ireturn, 1) := by decide +kernel
/-! THE REFERENCE'S LEAST WEIGHTS: 4000000000000000000 where there is no way -/
def mf (o : Option Nat) : Int64 := match o with
  | none => 4000000000000000000
  | some w => lN w
theorem mf_lt {a b : Option Nat} (ha : ∀ x, a = some x → x < 4000000000000000000) (hb : ∀ x, b = some x → x < 4000000000000000000) : mf a < mf b ↔ ls_lt a b = true := by
  cases a with
  | none =>
    cases b with
    | none => exact ⟨fun h => (Int64.lt_irrefl h).elim, fun h => by simp [ls_lt] at h⟩
    | some y =>
      have := hb y rfl
      show lN 4000000000000000000 < lN y ↔ _
      rw [pk_lLT (by decide) (by omega)]
      simp [ls_lt]
      omega
  | some x =>
    have := ha x rfl
    cases b with
    | none =>
      show lN x < lN 4000000000000000000 ↔ _
      rw [pk_lLT (by omega) (by decide)]
      simp [ls_lt]
      omega
    | some y =>
      have := hb y rfl
      show lN x < lN y ↔ _
      rw [pk_lLT (by omega) (by omega)]
      simp [ls_lt]
theorem mf_le {a : Option Nat} (ha : ∀ x, a = some x → x < 4000000000000000000) : mf a ≤ 4000000000000000000 := by
  cases a with
  | none => exact Int64.le_refl _
  | some x =>
    have := ha x rfl
    show lN x ≤ lN 4000000000000000000
    rw [pk_lLE (by omega) (by decide)]
    omega
theorem mf_fl {x : Nat} (h : x < 4000000000000000000) : ¬ (4000000000000000000 : Int64) ≤ lN x := by
  show ¬ lN 4000000000000000000 ≤ lN x
  rw [pk_lLE (by decide) (by omega)]
  omega
def mi (L : mo_L) (v : ls_V) : Prop := ∀ s, s < 16 → L 57 s = mf (v s)
theorem mi_same {L L2 : mo_L} {v : ls_V} {t : Nat} (h : L2 = va_up L 57 (vp_updL (L 57) t (mf (v t)))) (hv : mi L v) : mi L2 v := by
  intro s hs
  rw [h, gm_us]
  by_cases hst : s = t
  · subst hst
    rw [pk_uLs]
  · rw [pk_uLn hst]
    exact hv s hs
theorem mi_up {L L2 : mo_L} {v : ls_V} {t : Nat} {o : Option Nat} {z : Int64} (h : L2 = va_up L 57 (vp_updL (L 57) t z)) (hz : z = mf o) (hv : mi L v) : mi L2 (va_up v t o) := by
  intro s hs
  rw [h, gm_us]
  by_cases hst : s = t
  · subst hst
    rw [pk_uLs, gm_us, hz]
  · rw [pk_uLn hst, gm_un hst]
    exact hv s hs
theorem mi_k {L L2 : mo_L} {v : ls_V} (h : L2 57 = L 57) (hv : mi L v) : mi L2 v := by
  unfold mi at hv ⊢
  rw [h]
  exact hv
theorem ls_rx_y {v : ls_V} {x : ls_A} (h : ls_lt (ls_ad (v x.1) x.2.2) (v x.2.1) = true) : ls_rx v x = va_up v x.2.1 (ls_ad (v x.1) x.2.2) := if_pos h
theorem ls_rx_n {v : ls_V} {x : ls_A} (h : ¬ ls_lt (ls_ad (v x.1) x.2.2) (v x.2.1) = true) : ls_rx v x = v := if_neg h
theorem om_y {a b : Option Nat} (h : ls_lt b a = true) : om a b = b := if_pos h
theorem om_n {a b : Option Nat} (h : ¬ ls_lt b a = true) : om a b = a := if_neg h
theorem mo_is_sq {F F2 : mo_F} {L L2 : mo_L} {s : Nat} {a : am_T} {q : Int32} {z : Int64} {o : Option (Nat × Nat)} (hF : F2 = va_up F 45 (upd (F 45) s q)) (hL : L2 = va_up L 46 (vp_updL (L 46) s z)) (hz : mo_sq q z o) (h : mo_is F L s a) : mo_is F2 L2 s (am_n a, o, am_en a, am_ar a) := by
  have e : ∀ k, k ≠ 45 → F2 k = F k := fun k hk => by rw [hF, gm_un hk]
  have e2 : ∀ k, k ≠ 46 → L2 k = L k := fun k hk => by rw [hL, gm_un hk]
  obtain ⟨h1, h2, h3, h4, h5, h6⟩ := h
  refine ⟨by rw [e 44 (by decide)]; exact h1, by rw [hF, gm_us, pk_us, hL, gm_us, pk_uLs]; exact hz, by rw [e2 47 (by decide)]; exact h3, by rw [e 48 (by decide)]; exact h4, ?_, h6⟩
  unfold mo_a
  rw [e 49 (by decide), e 50 (by decide), e 51 (by decide), e 52 (by decide), e2 53 (by decide)]
  exact h5
set_option maxRecDepth 100000 in
set_option maxHeartbeats 4000000 in
theorem ct_Mo_spread (l : Launch) (D : va_G) (dA : Nat → ClassId) (ad : Nat → Nat) (h : Nat → va_E) (F : mo_F) (L : mo_L) (S : Nat → Int32) {ia p0 : Nat} {A : am_T} (hia : ia < 4) (hp0 : p0 < 16) (hA : mo_is F L ia A) (hAb : ∀ x ∈ am_ar A, x.1 < 16384 ∧ x.2 < 1000000001) : gx_Ct l D dA yy_Mo_spread cc_Mo_spread 8 none 0 0 0 [.ref (ad 43), .int (nI ia), .int (nI p0)] (gx_w ad (mo_h dA ad h F L S)) (fun v w => v = none ∧ ∃ L2, w = (gx_w ad (mo_h dA ad h F L2 S)) ∧ (∀ k, k ≠ 57 → L2 k = L k) ∧ mi L2 (ba_nr (am_ar A) p0) ∧ sp_b (1 + 1024 * 1000000001) (ba_nr (am_ar A) p0)) := by
  refine gx_of (by decide) (Nat.le_of_ble_eq_true rfl) (fun K C _ _ => ?_)
  have hla := hA.2.2.2.2.2
  have rounds : ∀ m r0 vr L1, r0 + m = 16 → vr = ls_it (am_ee (am_ar A)) r0 (ba_v p0) → mi L1 vr → sp_b (1 + r0 * 64 * 1000000001) vr → (∀ k, k ≠ 57 → L1 k = L k) → gx_G K D 8 0 0 34 [(3, .int (nI r0)), (0, .ref (ad 43)), (1, .int (nI ia)), (2, .int (nI p0))] [] (gx_w ad (mo_h dA ad h F L1 S)) (gx_Z K D dA 0 0 (fun v w => v = none ∧ ∃ L2, w = (gx_w ad (mo_h dA ad h F L2 S)) ∧ (∀ k, k ≠ 57 → L2 k = L k) ∧ mi L2 (ba_nr (am_ar A) p0) ∧ sp_b (1 + 1024 * 1000000001) (ba_nr (am_ar A) p0))) := by
    intro m
    induction m with
    | zero =>
      intro r0 vr L1 hr0 hvr hmi hB1 hLk
      refine gx_iload_n C 0 dd_Mo_spread_34 (kk := ?_)
      refine gx_bipush (v := nI 16) C dd_Mo_spread_35 (kk := ?_)
      refine gx_icmp_ge C 200 dd_Mo_spread_37 (fun h37 => ?_) (fun h37 => absurd (nI_le (a := 16) (b := r0) (by omega) (by omega)) h37)
      refine gx_vret C dd_Mo_spread_200 ?_
      rw [show r0 = 16 by omega] at hvr hB1
      subst hvr
      exact ⟨rfl, L1, rfl, hLk, hmi, sp_b_mono hB1 (by omega)⟩
    | succ m ih =>
      intro r0 vr L1 hr0 hvr hmi hB1 hLk
      refine gx_iload_n C 0 dd_Mo_spread_34 (kk := ?_)
      refine gx_bipush (v := nI 16) C dd_Mo_spread_35 (kk := ?_)
      refine gx_icmp_ge C 200 dd_Mo_spread_37 (fun h37 => absurd h37 (nI_ge (by omega) (by omega))) (fun h37 => ?_)
      refine gx_bipush (v := nI 65) C dd_Mo_spread_40 (kk := ?_)
      refine gx_iload_n C 2 dd_Mo_spread_42 (kk := ?_)
      refine gx_imul C dd_Mo_spread_43 (kk := ?_)
      refine gx_topi _ (pk_mul _ _) ?_
      refine gx_istore C _ dd_Mo_spread_44 (kk := ?_)
      have inner : ∀ m j v1 L1, j + m = (am_ar A).length → v1 = ls_rd (am_ee ((am_ar A).take j)) vr → mi L1 v1 → sp_b (1 + (r0 * 64 + j) * 1000000001) v1 → (∀ k, k ≠ 57 → L1 k = L k) → gx_G K D 8 0 0 46 [(4, .int (nI (65 * ia + j))), (3, .int (nI r0)), (0, .ref (ad 43)), (1, .int (nI ia)), (2, .int (nI p0))] [] (gx_w ad (mo_h dA ad h F L1 S)) (gx_Z K D dA 0 0 (fun v w => v = none ∧ ∃ L2, w = (gx_w ad (mo_h dA ad h F L2 S)) ∧ (∀ k, k ≠ 57 → L2 k = L k) ∧ mi L2 (ba_nr (am_ar A) p0) ∧ sp_b (1 + 1024 * 1000000001) (ba_nr (am_ar A) p0))) := by
        intro m
        induction m with
        | zero =>
          intro j v1 L1 hj hv1 hmi hB1 hLk
          refine gx_iload C 0 dd_Mo_spread_46 (kk := ?_)
          refine gx_bipush (v := nI 65) C dd_Mo_spread_48 (kk := ?_)
          refine gx_iload_n C 3 dd_Mo_spread_50 (kk := ?_)
          refine gx_imul C dd_Mo_spread_51 (kk := ?_)
          refine gx_topi _ (pk_mul _ _) ?_
          refine gx_aload_n C 2 dd_Mo_spread_52 (kk := ?_)
          refine mo_get C fd_Mo_23 dd_Mo_spread_53 (kk := ?_)
          refine gx_iload_n C 3 dd_Mo_spread_56 (kk := ?_)
          refine mo_l48 C dd_Mo_spread_57 (by omega) (kk := ?_)
          refine gx_topi _ (mo_is_k (fun _ _ => rfl) (fun k hk => hLk k (by omega)) hA).2.2.2.1 ?_
          refine gx_iadd C dd_Mo_spread_58 (kk := ?_)
          refine gx_topi _ (nI_add _ _) ?_
          refine gx_icmp_ge C 194 dd_Mo_spread_59 (fun h59 => ?_) (fun h59 => absurd (nI_le (a := 65 * ia + (am_ar A).length) (b := 65 * ia + j) (by omega) (by omega)) h59)
          refine gx_iinc C 1 (nI (r0 + 1)) _ dd_Mo_spread_194 (nI_1 _) (kk := ?_)
          refine gx_goto C 34 dd_Mo_spread_197 (kk := ?_)
          refine gx_loc [0, 2, 3, 4] ?_
          rw [show j = (am_ar A).length by omega, List.take_length] at hv1
          exact ih (r0 + 1) v1 L1 (by omega) (by rw [hv1, hvr]; rfl) hmi (sp_b_mono hB1 (by omega)) hLk
        | succ m ihj =>
          intro j v1 L1 hj hv1 hmi hB1 hLk
          obtain ⟨x, hx⟩ : ∃ x, (am_ar A)[j]? = some x := ⟨_, List.getElem?_eq_getElem (by omega)⟩
          have hxa := (mo_is_k (fun _ _ => rfl) (fun k hk => hLk k (by omega)) hA).2.2.2.2.1 j x hx
          have hxb := hAb x (List.mem_of_getElem? hx)
          refine gx_iload C 0 dd_Mo_spread_46 (kk := ?_)
          refine gx_bipush (v := nI 65) C dd_Mo_spread_48 (kk := ?_)
          refine gx_iload_n C 3 dd_Mo_spread_50 (kk := ?_)
          refine gx_imul C dd_Mo_spread_51 (kk := ?_)
          refine gx_topi _ (pk_mul _ _) ?_
          refine gx_aload_n C 2 dd_Mo_spread_52 (kk := ?_)
          refine mo_get C fd_Mo_23 dd_Mo_spread_53 (kk := ?_)
          refine gx_iload_n C 3 dd_Mo_spread_56 (kk := ?_)
          refine mo_l48 C dd_Mo_spread_57 (by omega) (kk := ?_)
          refine gx_topi _ (mo_is_k (fun _ _ => rfl) (fun k hk => hLk k (by omega)) hA).2.2.2.1 ?_
          refine gx_iadd C dd_Mo_spread_58 (kk := ?_)
          refine gx_topi _ (nI_add _ _) ?_
          refine gx_icmp_ge C 194 dd_Mo_spread_59 (fun h59 => absurd h59 (nI_ge (by omega) (by omega))) (fun h59 => ?_)
          rcases (show ¬ x.1 / 128 % 8 = 0 ∨ (x.1 / 128 % 8 = 0 ∧ ¬ x.1 / 16 % 8 = 0) ∨ (x.1 / 128 % 8 = 0 ∧ x.1 / 16 % 8 = 0) by omega) with z1 | ⟨z1, z2⟩ | ⟨z1, z2⟩
          · refine gx_aload_n C 2 dd_Mo_spread_62 (kk := ?_)
            refine mo_get C fd_Mo_32 dd_Mo_spread_63 (kk := ?_)
            refine gx_iload C 0 dd_Mo_spread_66 (kk := ?_)
            refine mo_l51 C dd_Mo_spread_68 (by omega) (kk := ?_)
            refine gx_topi _ hxa.2.2.1 ?_
            refine gx_if_ne C 105 dd_Mo_spread_69 (fun h69 => ?_) (fun h69 => absurd h69 (nI_ne0 (by omega) (by omega)))
            refine gx_iconst (v := nI 0) C dd_Mo_spread_105 (kk := ?_)
            refine gx_istore C _ dd_Mo_spread_106 (kk := ?_)
            refine gx_iload C 0 dd_Mo_spread_108 (kk := ?_)
            refine gx_if_eq C 136 dd_Mo_spread_110 (fun h110 => ?_) (fun h110 => absurd rfl h110)
            refine gx_ldc2 C dd_Mo_spread_136 kc_Mo_129 (kk := ?_)
            refine gx_lstore C _ dd_Mo_spread_139 (kk := ?_)
            refine gx_aload_n C 4 dd_Mo_spread_141 (kk := ?_)
            refine mo_get C fd_Mo_50 dd_Mo_spread_142 (kk := ?_)
            refine gx_aload_n C 4 dd_Mo_spread_145 (kk := ?_)
            refine mo_get C fd_Mo_29 dd_Mo_spread_146 (kk := ?_)
            refine gx_iload C 2 dd_Mo_spread_149 (kk := ?_)
            refine mo_l50 C dd_Mo_spread_151 (by omega) (kk := ?_)
            refine gx_topi _ hxa.2.1 ?_
            refine gx_lload C 0 dd_Mo_spread_152 (kk := ?_)
            refine gx_aload_n C 4 dd_Mo_spread_154 (kk := ?_)
            refine mo_get C fd_Mo_50 dd_Mo_spread_155 (kk := ?_)
            refine gx_aload_n C 4 dd_Mo_spread_158 (kk := ?_)
            refine mo_get C fd_Mo_29 dd_Mo_spread_159 (kk := ?_)
            refine gx_iload C 2 dd_Mo_spread_162 (kk := ?_)
            refine mo_l50 C dd_Mo_spread_164 (by omega) (kk := ?_)
            refine gx_topi _ hxa.2.1 ?_
            refine mo_l57 C dd_Mo_spread_165 (by omega) (kk := ?_)
            refine gx_topl _ (hmi (x.1 % 16) (by omega)) ?_
            refine gx_lcmp C dd_Mo_spread_166 (kk := ?_)
            refine gx_if_ge C 175 dd_Mo_spread_167 (fun h167 => ?_) (fun h167 => absurd (lc_ge.mpr (mf_le (fun y hy => by have := hB1 _ _ hy; omega))) h167)
            refine gx_aload_n C 4 dd_Mo_spread_175 (kk := ?_)
            refine mo_get C fd_Mo_50 dd_Mo_spread_176 (kk := ?_)
            refine gx_aload_n C 4 dd_Mo_spread_179 (kk := ?_)
            refine mo_get C fd_Mo_29 dd_Mo_spread_180 (kk := ?_)
            refine gx_iload C 2 dd_Mo_spread_183 (kk := ?_)
            refine mo_l50 C dd_Mo_spread_185 (by omega) (kk := ?_)
            refine gx_topi _ hxa.2.1 ?_
            refine mo_l57 C dd_Mo_spread_186 (by omega) (kk := ?_)
            refine gx_topl _ (hmi (x.1 % 16) (by omega)) ?_
            refine mo_s57 C dd_Mo_spread_187 (by omega) (kk := fun L187 hL187 => ?_)
            have hLk2 : ∀ k, k ≠ 57 → L187 k = L k := fun k hk => by rw [hL187, gm_un hk]; exact hLk k hk
            refine gx_iinc C 2 (nI (65 * ia + (j + 1))) _ dd_Mo_spread_188 (nI_1 _) (kk := ?_)
            refine gx_goto C 46 dd_Mo_spread_191 (kk := ?_)
            refine gx_loc [0, 3, 4, 5, 6] ?_
            exact ihj (j + 1) v1 L187 (by omega) (by rw [am_ee_s hx, if_neg (by omega)]; exact hv1) (mi_same hL187 hmi) (sp_b_mono hB1 (by omega)) hLk2
          · refine gx_aload_n C 2 dd_Mo_spread_62 (kk := ?_)
            refine mo_get C fd_Mo_32 dd_Mo_spread_63 (kk := ?_)
            refine gx_iload C 0 dd_Mo_spread_66 (kk := ?_)
            refine mo_l51 C dd_Mo_spread_68 (by omega) (kk := ?_)
            refine gx_topi _ hxa.2.2.1 ?_
            refine gx_if_ne C 105 dd_Mo_spread_69 (fun h69 => absurd (show nI (x.1 / 128 % 8) = 0 by rw [z1]; rfl) h69) (fun h69 => ?_)
            refine gx_aload_n C 2 dd_Mo_spread_72 (kk := ?_)
            refine mo_get C fd_Mo_35 dd_Mo_spread_73 (kk := ?_)
            refine gx_iload C 0 dd_Mo_spread_76 (kk := ?_)
            refine mo_l52 C dd_Mo_spread_78 (by omega) (kk := ?_)
            refine gx_topi _ hxa.2.2.2.1 ?_
            refine gx_if_ne C 105 dd_Mo_spread_79 (fun h79 => ?_) (fun h79 => absurd h79 (nI_ne0 (by omega) (by omega)))
            refine gx_iconst (v := nI 0) C dd_Mo_spread_105 (kk := ?_)
            refine gx_istore C _ dd_Mo_spread_106 (kk := ?_)
            refine gx_iload C 0 dd_Mo_spread_108 (kk := ?_)
            refine gx_if_eq C 136 dd_Mo_spread_110 (fun h110 => ?_) (fun h110 => absurd rfl h110)
            refine gx_ldc2 C dd_Mo_spread_136 kc_Mo_129 (kk := ?_)
            refine gx_lstore C _ dd_Mo_spread_139 (kk := ?_)
            refine gx_aload_n C 4 dd_Mo_spread_141 (kk := ?_)
            refine mo_get C fd_Mo_50 dd_Mo_spread_142 (kk := ?_)
            refine gx_aload_n C 4 dd_Mo_spread_145 (kk := ?_)
            refine mo_get C fd_Mo_29 dd_Mo_spread_146 (kk := ?_)
            refine gx_iload C 2 dd_Mo_spread_149 (kk := ?_)
            refine mo_l50 C dd_Mo_spread_151 (by omega) (kk := ?_)
            refine gx_topi _ hxa.2.1 ?_
            refine gx_lload C 0 dd_Mo_spread_152 (kk := ?_)
            refine gx_aload_n C 4 dd_Mo_spread_154 (kk := ?_)
            refine mo_get C fd_Mo_50 dd_Mo_spread_155 (kk := ?_)
            refine gx_aload_n C 4 dd_Mo_spread_158 (kk := ?_)
            refine mo_get C fd_Mo_29 dd_Mo_spread_159 (kk := ?_)
            refine gx_iload C 2 dd_Mo_spread_162 (kk := ?_)
            refine mo_l50 C dd_Mo_spread_164 (by omega) (kk := ?_)
            refine gx_topi _ hxa.2.1 ?_
            refine mo_l57 C dd_Mo_spread_165 (by omega) (kk := ?_)
            refine gx_topl _ (hmi (x.1 % 16) (by omega)) ?_
            refine gx_lcmp C dd_Mo_spread_166 (kk := ?_)
            refine gx_if_ge C 175 dd_Mo_spread_167 (fun h167 => ?_) (fun h167 => absurd (lc_ge.mpr (mf_le (fun y hy => by have := hB1 _ _ hy; omega))) h167)
            refine gx_aload_n C 4 dd_Mo_spread_175 (kk := ?_)
            refine mo_get C fd_Mo_50 dd_Mo_spread_176 (kk := ?_)
            refine gx_aload_n C 4 dd_Mo_spread_179 (kk := ?_)
            refine mo_get C fd_Mo_29 dd_Mo_spread_180 (kk := ?_)
            refine gx_iload C 2 dd_Mo_spread_183 (kk := ?_)
            refine mo_l50 C dd_Mo_spread_185 (by omega) (kk := ?_)
            refine gx_topi _ hxa.2.1 ?_
            refine mo_l57 C dd_Mo_spread_186 (by omega) (kk := ?_)
            refine gx_topl _ (hmi (x.1 % 16) (by omega)) ?_
            refine mo_s57 C dd_Mo_spread_187 (by omega) (kk := fun L187 hL187 => ?_)
            have hLk2 : ∀ k, k ≠ 57 → L187 k = L k := fun k hk => by rw [hL187, gm_un hk]; exact hLk k hk
            refine gx_iinc C 2 (nI (65 * ia + (j + 1))) _ dd_Mo_spread_188 (nI_1 _) (kk := ?_)
            refine gx_goto C 46 dd_Mo_spread_191 (kk := ?_)
            refine gx_loc [0, 3, 4, 5, 6] ?_
            exact ihj (j + 1) v1 L187 (by omega) (by rw [am_ee_s hx, if_neg (by omega)]; exact hv1) (mi_same hL187 hmi) (sp_b_mono hB1 (by omega)) hLk2
          · refine gx_aload_n C 2 dd_Mo_spread_62 (kk := ?_)
            refine mo_get C fd_Mo_32 dd_Mo_spread_63 (kk := ?_)
            refine gx_iload C 0 dd_Mo_spread_66 (kk := ?_)
            refine mo_l51 C dd_Mo_spread_68 (by omega) (kk := ?_)
            refine gx_topi _ hxa.2.2.1 ?_
            refine gx_if_ne C 105 dd_Mo_spread_69 (fun h69 => absurd (show nI (x.1 / 128 % 8) = 0 by rw [z1]; rfl) h69) (fun h69 => ?_)
            refine gx_aload_n C 2 dd_Mo_spread_72 (kk := ?_)
            refine mo_get C fd_Mo_35 dd_Mo_spread_73 (kk := ?_)
            refine gx_iload C 0 dd_Mo_spread_76 (kk := ?_)
            refine mo_l52 C dd_Mo_spread_78 (by omega) (kk := ?_)
            refine gx_topi _ hxa.2.2.2.1 ?_
            refine gx_if_ne C 105 dd_Mo_spread_79 (fun h79 => absurd (show nI (x.1 / 16 % 8) = 0 by rw [z2]; rfl) h79) (fun h79 => ?_)
            have hvf0 := hmi (x.1 / 1024) (by omega)
            rcases hvf : v1 (x.1 / 1024) with _ | d
            · rw [hvf] at hvf0
              refine gx_aload_n C 2 dd_Mo_spread_82 (kk := ?_)
              refine mo_get C fd_Mo_50 dd_Mo_spread_83 (kk := ?_)
              refine gx_aload_n C 2 dd_Mo_spread_86 (kk := ?_)
              refine mo_get C fd_Mo_26 dd_Mo_spread_87 (kk := ?_)
              refine gx_iload C 0 dd_Mo_spread_90 (kk := ?_)
              refine mo_l49 C dd_Mo_spread_92 (by omega) (kk := ?_)
              refine gx_topi _ hxa.1 ?_
              refine mo_l57 C dd_Mo_spread_93 (by omega) (kk := ?_)
              refine gx_topl _ hvf0 ?_
              refine gx_ldc2 C dd_Mo_spread_94 kc_Mo_129 (kk := ?_)
              refine gx_lcmp C dd_Mo_spread_97 (kk := ?_)
              refine gx_if_ge C 105 dd_Mo_spread_98 (fun h98 => ?_) (fun h98 => absurd (by decide) h98)
              refine gx_iconst (v := nI 0) C dd_Mo_spread_105 (kk := ?_)
              refine gx_istore C _ dd_Mo_spread_106 (kk := ?_)
              refine gx_iload C 0 dd_Mo_spread_108 (kk := ?_)
              refine gx_if_eq C 136 dd_Mo_spread_110 (fun h110 => ?_) (fun h110 => absurd rfl h110)
              refine gx_ldc2 C dd_Mo_spread_136 kc_Mo_129 (kk := ?_)
              refine gx_lstore C _ dd_Mo_spread_139 (kk := ?_)
              refine gx_aload_n C 4 dd_Mo_spread_141 (kk := ?_)
              refine mo_get C fd_Mo_50 dd_Mo_spread_142 (kk := ?_)
              refine gx_aload_n C 4 dd_Mo_spread_145 (kk := ?_)
              refine mo_get C fd_Mo_29 dd_Mo_spread_146 (kk := ?_)
              refine gx_iload C 2 dd_Mo_spread_149 (kk := ?_)
              refine mo_l50 C dd_Mo_spread_151 (by omega) (kk := ?_)
              refine gx_topi _ hxa.2.1 ?_
              refine gx_lload C 0 dd_Mo_spread_152 (kk := ?_)
              refine gx_aload_n C 4 dd_Mo_spread_154 (kk := ?_)
              refine mo_get C fd_Mo_50 dd_Mo_spread_155 (kk := ?_)
              refine gx_aload_n C 4 dd_Mo_spread_158 (kk := ?_)
              refine mo_get C fd_Mo_29 dd_Mo_spread_159 (kk := ?_)
              refine gx_iload C 2 dd_Mo_spread_162 (kk := ?_)
              refine mo_l50 C dd_Mo_spread_164 (by omega) (kk := ?_)
              refine gx_topi _ hxa.2.1 ?_
              refine mo_l57 C dd_Mo_spread_165 (by omega) (kk := ?_)
              refine gx_topl _ (hmi (x.1 % 16) (by omega)) ?_
              refine gx_lcmp C dd_Mo_spread_166 (kk := ?_)
              refine gx_if_ge C 175 dd_Mo_spread_167 (fun h167 => ?_) (fun h167 => absurd (lc_ge.mpr (mf_le (fun y hy => by have := hB1 _ _ hy; omega))) h167)
              refine gx_aload_n C 4 dd_Mo_spread_175 (kk := ?_)
              refine mo_get C fd_Mo_50 dd_Mo_spread_176 (kk := ?_)
              refine gx_aload_n C 4 dd_Mo_spread_179 (kk := ?_)
              refine mo_get C fd_Mo_29 dd_Mo_spread_180 (kk := ?_)
              refine gx_iload C 2 dd_Mo_spread_183 (kk := ?_)
              refine mo_l50 C dd_Mo_spread_185 (by omega) (kk := ?_)
              refine gx_topi _ hxa.2.1 ?_
              refine mo_l57 C dd_Mo_spread_186 (by omega) (kk := ?_)
              refine gx_topl _ (hmi (x.1 % 16) (by omega)) ?_
              refine mo_s57 C dd_Mo_spread_187 (by omega) (kk := fun L187 hL187 => ?_)
              have hLk2 : ∀ k, k ≠ 57 → L187 k = L k := fun k hk => by rw [hL187, gm_un hk]; exact hLk k hk
              refine gx_iinc C 2 (nI (65 * ia + (j + 1))) _ dd_Mo_spread_188 (nI_1 _) (kk := ?_)
              refine gx_goto C 46 dd_Mo_spread_191 (kk := ?_)
              refine gx_loc [0, 3, 4, 5, 6] ?_
              have hrx : ls_rx v1 (am_xe x) = v1 := ls_rx_n (by show ¬ ls_lt (ls_ad (v1 (x.1 / 1024)) x.2) (v1 (x.1 % 16)) = true; rw [hvf]; simp [ls_ad, ls_lt])
              exact ihj (j + 1) v1 L187 (by omega) (hrx.symm.trans (by rw [hv1, am_ee_s hx, if_pos (by omega), ls_rd_s])) (mi_same hL187 hmi) (sp_b_mono hB1 (by omega)) hLk2
            · rw [hvf] at hvf0
              have hdb := hB1 _ _ hvf
              refine gx_aload_n C 2 dd_Mo_spread_82 (kk := ?_)
              refine mo_get C fd_Mo_50 dd_Mo_spread_83 (kk := ?_)
              refine gx_aload_n C 2 dd_Mo_spread_86 (kk := ?_)
              refine mo_get C fd_Mo_26 dd_Mo_spread_87 (kk := ?_)
              refine gx_iload C 0 dd_Mo_spread_90 (kk := ?_)
              refine mo_l49 C dd_Mo_spread_92 (by omega) (kk := ?_)
              refine gx_topi _ hxa.1 ?_
              refine mo_l57 C dd_Mo_spread_93 (by omega) (kk := ?_)
              refine gx_topl _ hvf0 ?_
              refine gx_ldc2 C dd_Mo_spread_94 kc_Mo_129 (kk := ?_)
              refine gx_lcmp C dd_Mo_spread_97 (kk := ?_)
              refine gx_if_ge C 105 dd_Mo_spread_98 (fun h98 => absurd (lc_ge.mp h98) (mf_fl (by omega))) (fun h98 => ?_)
              refine gx_iconst (v := nI 1) C dd_Mo_spread_101 (kk := ?_)
              refine gx_goto C 106 dd_Mo_spread_102 (kk := ?_)
              refine gx_istore C _ dd_Mo_spread_106 (kk := ?_)
              refine gx_iload C 0 dd_Mo_spread_108 (kk := ?_)
              refine gx_if_eq C 136 dd_Mo_spread_110 (fun h110 => absurd h110 (by decide)) (fun h110 => ?_)
              refine gx_aload_n C 3 dd_Mo_spread_113 (kk := ?_)
              refine mo_get C fd_Mo_50 dd_Mo_spread_114 (kk := ?_)
              refine gx_aload_n C 3 dd_Mo_spread_117 (kk := ?_)
              refine mo_get C fd_Mo_26 dd_Mo_spread_118 (kk := ?_)
              refine gx_iload C 1 dd_Mo_spread_121 (kk := ?_)
              refine mo_l49 C dd_Mo_spread_123 (by omega) (kk := ?_)
              refine gx_topi _ hxa.1 ?_
              refine mo_l57 C dd_Mo_spread_124 (by omega) (kk := ?_)
              refine gx_topl _ hvf0 ?_
              refine gx_aload_n C 3 dd_Mo_spread_125 (kk := ?_)
              refine mo_get C fd_Mo_38 dd_Mo_spread_126 (kk := ?_)
              refine gx_iload C 1 dd_Mo_spread_129 (kk := ?_)
              refine mo_l53 C dd_Mo_spread_131 (by omega) (kk := ?_)
              refine gx_topl _ hxa.2.2.2.2 ?_
              refine gx_ladd C dd_Mo_spread_132 (kk := ?_)
              refine gx_topl _ (lN_add _ _) ?_
              refine gx_goto C 139 dd_Mo_spread_133 (kk := ?_)
              refine gx_lstore C _ dd_Mo_spread_139 (kk := ?_)
              refine gx_aload_n C 4 dd_Mo_spread_141 (kk := ?_)
              refine mo_get C fd_Mo_50 dd_Mo_spread_142 (kk := ?_)
              refine gx_aload_n C 4 dd_Mo_spread_145 (kk := ?_)
              refine mo_get C fd_Mo_29 dd_Mo_spread_146 (kk := ?_)
              refine gx_iload C 2 dd_Mo_spread_149 (kk := ?_)
              refine mo_l50 C dd_Mo_spread_151 (by omega) (kk := ?_)
              refine gx_topi _ hxa.2.1 ?_
              refine gx_lload C 0 dd_Mo_spread_152 (kk := ?_)
              refine gx_aload_n C 4 dd_Mo_spread_154 (kk := ?_)
              refine mo_get C fd_Mo_50 dd_Mo_spread_155 (kk := ?_)
              refine gx_aload_n C 4 dd_Mo_spread_158 (kk := ?_)
              refine mo_get C fd_Mo_29 dd_Mo_spread_159 (kk := ?_)
              refine gx_iload C 2 dd_Mo_spread_162 (kk := ?_)
              refine mo_l50 C dd_Mo_spread_164 (by omega) (kk := ?_)
              refine gx_topi _ hxa.2.1 ?_
              refine mo_l57 C dd_Mo_spread_165 (by omega) (kk := ?_)
              refine gx_topl _ (hmi (x.1 % 16) (by omega)) ?_
              refine gx_lcmp C dd_Mo_spread_166 (kk := ?_)
              refine gx_if_ge C 175 dd_Mo_spread_167 (fun h167 => ?_) (fun h167 => ?_)
              · refine gx_aload_n C 4 dd_Mo_spread_175 (kk := ?_)
                refine mo_get C fd_Mo_50 dd_Mo_spread_176 (kk := ?_)
                refine gx_aload_n C 4 dd_Mo_spread_179 (kk := ?_)
                refine mo_get C fd_Mo_29 dd_Mo_spread_180 (kk := ?_)
                refine gx_iload C 2 dd_Mo_spread_183 (kk := ?_)
                refine mo_l50 C dd_Mo_spread_185 (by omega) (kk := ?_)
                refine gx_topi _ hxa.2.1 ?_
                refine mo_l57 C dd_Mo_spread_186 (by omega) (kk := ?_)
                refine gx_topl _ (hmi (x.1 % 16) (by omega)) ?_
                refine mo_s57 C dd_Mo_spread_187 (by omega) (kk := fun L187 hL187 => ?_)
                have hLk2 : ∀ k, k ≠ 57 → L187 k = L k := fun k hk => by rw [hL187, gm_un hk]; exact hLk k hk
                refine gx_iinc C 2 (nI (65 * ia + (j + 1))) _ dd_Mo_spread_188 (nI_1 _) (kk := ?_)
                refine gx_goto C 46 dd_Mo_spread_191 (kk := ?_)
                refine gx_loc [0, 3, 4, 5, 6] ?_
                rw [lc_ge, ← Int64.not_lt, show lN (d + x.2) = mf (some (d + x.2)) from rfl, mf_lt (fun y hy => by cases hy; omega) (fun y hy => by have := hB1 _ _ hy; omega)] at h167
                have hrx : ls_rx v1 (am_xe x) = v1 := ls_rx_n (by show ¬ ls_lt (ls_ad (v1 (x.1 / 1024)) x.2) (v1 (x.1 % 16)) = true; rw [hvf]; exact h167)
                exact ihj (j + 1) v1 L187 (by omega) (hrx.symm.trans (by rw [hv1, am_ee_s hx, if_pos (by omega), ls_rd_s])) (mi_same hL187 hmi) (sp_b_mono hB1 (by omega)) hLk2
              · refine gx_lload C 0 dd_Mo_spread_170 (kk := ?_)
                refine gx_goto C 187 dd_Mo_spread_172 (kk := ?_)
                refine mo_s57 C dd_Mo_spread_187 (by omega) (kk := fun L187 hL187 => ?_)
                have hLk2 : ∀ k, k ≠ 57 → L187 k = L k := fun k hk => by rw [hL187, gm_un hk]; exact hLk k hk
                refine gx_iinc C 2 (nI (65 * ia + (j + 1))) _ dd_Mo_spread_188 (nI_1 _) (kk := ?_)
                refine gx_goto C 46 dd_Mo_spread_191 (kk := ?_)
                refine gx_loc [0, 3, 4, 5, 6] ?_
                rw [lc_ge, ← Int64.not_lt, Classical.not_not, show lN (d + x.2) = mf (some (d + x.2)) from rfl, mf_lt (fun y hy => by cases hy; omega) (fun y hy => by have := hB1 _ _ hy; omega)] at h167
                have hrx : ls_rx v1 (am_xe x) = va_up v1 (x.1 % 16) (some (d + x.2)) := (ls_rx_y (by show ls_lt (ls_ad (v1 (x.1 / 1024)) x.2) (v1 (x.1 % 16)) = true; rw [hvf]; exact h167)).trans (by show va_up v1 (x.1 % 16) (ls_ad (v1 (x.1 / 1024)) x.2) = _; rw [hvf]; rfl)
                exact ihj (j + 1) _ L187 (by omega) (hrx.symm.trans (by rw [hv1, am_ee_s hx, if_pos (by omega), ls_rd_s])) (mi_up hL187 rfl hmi) (by rw [← hrx]; exact sp_b_mono (sp_b_rx (w := 1000000001) hB1 (by show x.2 ≤ _; omega)) (by omega)) hLk2
      exact inner (am_ar A).length 0 vr L1 (by omega) rfl hmi (sp_b_mono hB1 (by omega)) hLk
  have fill : ∀ m j L1, j + m = 16 → (∀ s, s < j → L1 57 s = mf (ba_v p0 s)) → (∀ k, k ≠ 57 → L1 k = L k) → gx_G K D 8 0 0 2 [(3, .int (nI j)), (0, .ref (ad 43)), (1, .int (nI ia)), (2, .int (nI p0))] [] (gx_w ad (mo_h dA ad h F L1 S)) (gx_Z K D dA 0 0 (fun v w => v = none ∧ ∃ L2, w = (gx_w ad (mo_h dA ad h F L2 S)) ∧ (∀ k, k ≠ 57 → L2 k = L k) ∧ mi L2 (ba_nr (am_ar A) p0) ∧ sp_b (1 + 1024 * 1000000001) (ba_nr (am_ar A) p0))) := by
    intro m
    induction m with
    | zero =>
      intro j L1 hj hf hLk
      refine gx_iload_n C 0 dd_Mo_spread_2 (kk := ?_)
      refine gx_bipush (v := nI 16) C dd_Mo_spread_3 (kk := ?_)
      refine gx_icmp_ge C 32 dd_Mo_spread_5 (fun h5 => ?_) (fun h5 => absurd (nI_le (a := 16) (b := j) (by omega) (by omega)) h5)
      refine gx_iconst (v := nI 0) C dd_Mo_spread_32 (kk := ?_)
      refine gx_istore_n C _ dd_Mo_spread_33 (kk := ?_)
      exact rounds 16 0 (ba_v p0) L1 rfl rfl (fun s hs => hf s (by omega)) (ba_vb p0) hLk
    | succ m ih =>
      intro j L1 hj hf hLk
      refine gx_iload_n C 0 dd_Mo_spread_2 (kk := ?_)
      refine gx_bipush (v := nI 16) C dd_Mo_spread_3 (kk := ?_)
      refine gx_icmp_ge C 32 dd_Mo_spread_5 (fun h5 => absurd h5 (nI_ge (by omega) (by omega))) (fun h5 => ?_)
      refine gx_aload_n C 1 dd_Mo_spread_8 (kk := ?_)
      refine mo_get C fd_Mo_50 dd_Mo_spread_9 (kk := ?_)
      refine gx_iload_n C 0 dd_Mo_spread_12 (kk := ?_)
      by_cases hjp : j = p0
      · refine gx_iload_n C 0 dd_Mo_spread_13 (kk := ?_)
        refine gx_iload_n C 3 dd_Mo_spread_14 (kk := ?_)
        refine gx_icmp_ne C 22 dd_Mo_spread_15 (fun h15 => absurd (congrArg nI hjp) h15) (fun h15 => ?_)
        refine gx_lconst (v := lN 0) C dd_Mo_spread_18 (kk := ?_)
        refine gx_goto C 25 dd_Mo_spread_19 (kk := ?_)
        refine mo_s57 C dd_Mo_spread_25 (by omega) (kk := fun L25 hL25 => ?_)
        refine gx_iinc C 0 (nI (j + 1)) _ dd_Mo_spread_26 (nI_1 _) (kk := ?_)
        refine gx_goto C 2 dd_Mo_spread_29 (kk := ?_)
        refine ih (j + 1) L25 (by omega) (fun s hs => ?_) (fun k hk => by rw [hL25, gm_un hk]; exact hLk k hk)
        rw [hL25, gm_us]
        by_cases hsj : s = j
        · rw [hsj, pk_uLs]
          unfold ba_v
          rw [if_pos hjp]
          rfl
        · rw [pk_uLn hsj]
          exact hf s (by omega)
      · refine gx_iload_n C 0 dd_Mo_spread_13 (kk := ?_)
        refine gx_iload_n C 3 dd_Mo_spread_14 (kk := ?_)
        refine gx_icmp_ne C 22 dd_Mo_spread_15 (fun h15 => ?_) (fun h15 => absurd ((nI_eq (by omega) (by omega)).mp h15) hjp)
        refine gx_ldc2 C dd_Mo_spread_22 kc_Mo_129 (kk := ?_)
        refine mo_s57 C dd_Mo_spread_25 (by omega) (kk := fun L25 hL25 => ?_)
        refine gx_iinc C 0 (nI (j + 1)) _ dd_Mo_spread_26 (nI_1 _) (kk := ?_)
        refine gx_goto C 2 dd_Mo_spread_29 (kk := ?_)
        refine ih (j + 1) L25 (by omega) (fun s hs => ?_) (fun k hk => by rw [hL25, gm_un hk]; exact hLk k hk)
        rw [hL25, gm_us]
        by_cases hsj : s = j
        · rw [hsj, pk_uLs]
          unfold ba_v
          rw [if_neg hjp]
          rfl
        · rw [pk_uLn hsj]
          exact hf s (by omega)
  refine gx_iconst (v := nI 0) C dd_Mo_spread_0 (kk := ?_)
  refine gx_istore_n C _ dd_Mo_spread_1 (kk := ?_)
  exact fill 16 0 L rfl (fun s hs => absurd hs (Nat.not_lt_zero _)) (fun _ _ => rfl)
theorem ba_exs {l : List (Nat × Nat)} {m p : Nat} {ar : List (Nat × Nat)} : ba_ex l (m + 1) p ar = match mk_run (ba_it l (ba_nr l p) p) ar with
    | none => none
    | some ar2 => ba_ex l m (p + 1) ar2 := rfl
theorem mb_arb {ar : List (Nat × Nat)} {key w : Nat} (h : ∀ x ∈ ar, x.1 < 16384 ∧ x.2 < 35184372088832) (hk : key < 16384) (hw : w < 35184372088832) : ∀ x ∈ am_in key w ar, x.1 < 16384 ∧ x.2 < 35184372088832 := fun _ hz => co_inb h hk hw hz
theorem ba_esb {a : am_T} (hv : ∀ p, sp_b 17592186044416 (ba_nr (am_ar a) p)) (ha : ∀ q e, am_en a q = some e → e < 1000000001) (p q e : Nat) (h : ba_es a p q = some e) : e < 35184372088832 := by
  unfold ba_es at h
  split at h
  · exact ba_le_b (hv q) (fun q e he => Nat.lt_trans (ha q e he) (by decide)) _ _ h
  · cases h
theorem ba_nrb {l : List (Nat × Nat)} (hl : l.length ≤ 64) (hb : ∀ x ∈ l, x.2 < 1000000001) (p : Nat) : sp_b 17592186044416 (ba_nr l p) := by
  have rd : ∀ (E : List ls_A) (v : ls_V) (B : Nat), (∀ x ∈ E, x.2.2 < 1000000001) → sp_b B v → sp_b (B + E.length * 1000000001) (ls_rd E v) := by
    intro E
    induction E with
    | nil => intro v B _ h; exact sp_b_mono h (Nat.le_add_right _ _)
    | cons x t ih =>
      intro v B hE h
      have h2 := ih (ls_rx v x) (B + 1000000001) (fun y hy => hE y (List.mem_cons_of_mem _ hy)) (sp_b_rx h (Nat.le_of_lt (hE x List.mem_cons_self)))
      exact sp_b_mono h2 (by rw [List.length_cons]; omega)
  have hel : (am_ee l).length ≤ 64 := by
    unfold am_ee
    rw [List.length_map]
    exact Nat.le_trans (List.length_filter_le _ _) hl
  have hew : ∀ x ∈ am_ee l, x.2.2 < 1000000001 := by
    intro e he
    obtain ⟨x, hx, rfl⟩ := List.mem_map.mp he
    exact hb x (List.mem_filter.mp hx).1
  have it : ∀ k, sp_b (1 + k * 64000000064) (ls_it (am_ee l) k (ba_v p)) := by
    intro k
    induction k with
    | zero => exact ba_vb p
    | succ k ih => exact sp_b_mono (rd _ _ _ hew ih) (by have := Nat.mul_le_mul_right 1000000001 hel; omega)
  exact sp_b_mono (it 16) (by decide)
set_option maxRecDepth 100000 in
set_option maxHeartbeats 4000000 in
theorem ct_Mo_bare (l : Launch) (D : va_G) (dA : Nat → ClassId) (ad : Nat → Nat) (h : Nat → va_E) (F : mo_F) (L : mo_L) (S : Nat → Int32) {σ : sg} (hr : rs F L S σ) (hσ : sg_ok σ) (a c : Int32) : gx_Ct l D dA yy_Mo_bare cc_Mo_bare 9 (some .int) 2 0 0 [.ref (ad 43), .int a, .int c] (gx_w ad (mo_h dA ad h F L S)) (fun v w => ∃ F2 L2 S2, w = (gx_w ad (mo_h dA ad h F2 L2 S2)) ∧ rs F2 L2 S2 (o_bare σ a c).2 ∧ v = some (.int (o_bare σ a c).1)) := by
  refine gx_of (by decide) (Nat.le_of_ble_eq_true rfl) (fun K C _ _ => ?_)
  have hM := hr.1
  have hP := hr.2.1
  have hX := hr.2.2
  refine gx_iload_n C 1 dd_Mo_bare_0 (kk := ?_)
  refine gx_callS C (ct_Mo_isSlot (gx_l K) D dA _ a) me_Mo_isSlot ml_Mo_81 ms_Mo_isSlot dd_Mo_bare_1 (kk := fun v w hq => ?_)
  obtain ⟨rfl, rfl⟩ := hq
  rcases hi : ix 4 a with _ | i
  · refine gx_if_eq C 14 dd_Mo_bare_4 (fun h4 => ?_) (fun h4 => absurd rfl h4)
    refine gx_iconst (v := -1) C dd_Mo_bare_14 (kk := ?_)
    refine gx_iret C dd_Mo_bare_15 ?_
    have hsp : o_bare σ a c = (-1, σ) := by
      unfold o_bare
      simp only [hi]
    rw [hsp]
    exact ⟨F, L, S, rfl, hr, rfl⟩
  · obtain ⟨hi4, rfl⟩ := ix_of (by decide) hi
    refine gx_if_eq C 14 dd_Mo_bare_4 (fun h4 => absurd (show true = false from fb_0.mp h4) (by decide)) (fun h4 => ?_)
    refine gx_iload_n C 2 dd_Mo_bare_7 (kk := ?_)
    refine gx_callS C (ct_Mo_isSlot (gx_l K) D dA _ c) me_Mo_isSlot ml_Mo_81 ms_Mo_isSlot dd_Mo_bare_8 (kk := fun v w hq => ?_)
    obtain ⟨rfl, rfl⟩ := hq
    rcases hk : ix 4 c with _ | k
    · refine gx_if_ne C 16 dd_Mo_bare_11 (fun h11 => absurd rfl h11) (fun h11 => ?_)
      refine gx_iconst (v := -1) C dd_Mo_bare_14 (kk := ?_)
      refine gx_iret C dd_Mo_bare_15 ?_
      have hsp : o_bare σ (nI i) c = (-1, σ) := by
        unfold o_bare
        simp only [hi, hk]
      rw [hsp]
      exact ⟨F, L, S, rfl, hr, rfl⟩
    · obtain ⟨hk4, rfl⟩ := ix_of (by decide) hk
      refine gx_if_ne C 16 dd_Mo_bare_11 (fun h11 => ?_) (fun h11 => absurd (show true = false from fb_0.mp h11) (by decide))
      refine gx_aload_n C 0 dd_Mo_bare_16 (kk := ?_)
      refine gx_iconst (v := nI 4) C dd_Mo_bare_17 (kk := ?_)
      refine gx_aload_n C 0 dd_Mo_bare_18 (kk := ?_)
      refine mo_get C fd_Mo_7 dd_Mo_bare_19 (kk := ?_)
      refine gx_iload_n C 1 dd_Mo_bare_22 (kk := ?_)
      refine mo_l44 C dd_Mo_bare_23 (by omega) (kk := ?_)
      have hok := hσ.1 i hi4
      have hn16 := hok.1.1
      have hl64 := hok.1.2.1
      refine gx_topi _ (hM i hi4).1 ?_
      refine gx_callV C (ct_Mo_blank (gx_l K) D dA ad h F L S (s := 4) (n := am_n (σ.1 i)) (by decide)) me_Mo_blank ml_Mo_75 mn_Mo_blank _ (gx_w_at (by decide) mo_h_43) rfl dd_Mo_bare_24 (kk := fun v w hq => ?_)
      obtain ⟨rfl, F2, L2, rfl, hM4, hf4⟩ := hq
      refine gx_aload_n C 0 dd_Mo_bare_27 (kk := ?_)
      refine mo_get C fd_Mo_13 dd_Mo_bare_28 (kk := ?_)
      refine gx_iconst (v := nI 4) C dd_Mo_bare_31 (kk := ?_)
      refine gx_aload_n C 0 dd_Mo_bare_32 (kk := ?_)
      refine mo_get C fd_Mo_13 dd_Mo_bare_33 (kk := ?_)
      refine gx_iload_n C 1 dd_Mo_bare_36 (kk := ?_)
      refine mo_l45 C dd_Mo_bare_37 (by omega) (kk := ?_)
      refine mo_s45 C dd_Mo_bare_38 (by omega) (kk := fun F38 hF38 => ?_)
      refine gx_aload_n C 0 dd_Mo_bare_39 (kk := ?_)
      refine mo_get C fd_Mo_16 dd_Mo_bare_40 (kk := ?_)
      refine gx_iconst (v := nI 4) C dd_Mo_bare_43 (kk := ?_)
      refine gx_aload_n C 0 dd_Mo_bare_44 (kk := ?_)
      refine mo_get C fd_Mo_16 dd_Mo_bare_45 (kk := ?_)
      refine gx_iload_n C 1 dd_Mo_bare_48 (kk := ?_)
      refine mo_l46 C dd_Mo_bare_49 (by omega) (kk := ?_)
      refine mo_s46 C dd_Mo_bare_50 (by omega) (kk := fun L50 hL50 => ?_)
      refine gx_iconst (v := nI 0) C dd_Mo_bare_51 (kk := ?_)
      refine gx_istore_n C _ dd_Mo_bare_52 (kk := ?_)
      have hM5 : mo_is F38 L50 4 (am_n (σ.1 i), am_st (σ.1 i), (fun _ => none), []) := mo_is_sq hF38 hL50 (mo_w_is (mo_w_fr hf4) hi4 (hM i hi4)).2.1 hM4
      have hw5 : mo_w F L F38 L50 := mo_w_tr (mo_w_fr hf4) (mo_w_fr (mo_fr_tr (mo_fr_45 hF38) (mo_fr_46 hL50)))
      have main : ∀ m p0 ar0 F0 L0, p0 + m = am_n (σ.1 i) → ba_ex (am_ar (σ.1 i)) (am_n (σ.1 i)) 0 [] = ba_ex (am_ar (σ.1 i)) m p0 ar0 → mo_is F0 L0 4 (am_n (σ.1 i), am_st (σ.1 i), ba_es (σ.1 i) p0, ar0) → mo_w F L F0 L0 → am_so ar0 → (∀ x ∈ ar0, x.1 < 16384 ∧ x.2 < 35184372088832) → gx_G K D 9 0 0 53 [(3, .int (nI p0)), (0, .ref (ad 43)), (1, .int (nI i)), (2, .int (nI k))] [] (gx_w ad (mo_h dA ad h F0 L0 S)) (gx_Z K D dA 0 0 (fun v w => ∃ F2 L2 S2, w = (gx_w ad (mo_h dA ad h F2 L2 S2)) ∧ rs F2 L2 S2 (o_bare σ (nI i) (nI k)).2 ∧ v = some (.int (o_bare σ (nI i) (nI k)).1))) := by
        intro m
        induction m with
        | zero =>
          intro p0 ar0 F0 L0 hp0 hE hM0 hw0 hso0 hab0
          refine gx_iload_n C 0 dd_Mo_bare_53 (kk := ?_)
          refine gx_aload_n C 1 dd_Mo_bare_54 (kk := ?_)
          refine mo_get C fd_Mo_7 dd_Mo_bare_55 (kk := ?_)
          refine gx_iload_n C 2 dd_Mo_bare_58 (kk := ?_)
          refine mo_l44 C dd_Mo_bare_59 (by omega) (kk := ?_)
          refine gx_topi _ (mo_w_is hw0 hi4 (hM i hi4)).1 ?_
          refine gx_icmp_ge C 334 dd_Mo_bare_60 (fun h60 => ?_) (fun h60 => absurd (nI_le (a := am_n (σ.1 i)) (b := p0) (by omega) (by omega)) h60)
          refine gx_aload_n C 1 dd_Mo_bare_334 (kk := ?_)
          refine gx_iload_n C 3 dd_Mo_bare_335 (kk := ?_)
          refine gx_callV C (ct_Mo_keep (gx_l K) D dA ad h F0 L0 S (c := k) (B := 35184372088832) (b := (am_n (σ.1 i), am_st (σ.1 i), ba_es (σ.1 i) (am_n (σ.1 i)), ar0)) (by omega) (by rw [show p0 = am_n (σ.1 i) by omega] at hM0; exact hM0) hn16 (by decide) (fun x hx => (hab0 x hx).2) (ba_esb (ba_nrb hl64 (fun x hx => (hok.1.2.2.1 x hx).2)) hok.1.2.2.2.1 _) (fun x hx => ⟨(hok.1.2.2.2.2 x hx).1, Nat.lt_trans (hok.1.2.2.2.2 x hx).2 (by decide)⟩)) me_Mo_keep ml_Mo_126 mn_Mo_keep _ (gx_w_at (by decide) mo_h_43) rfl dd_Mo_bare_336 (kk := fun v w hq => ?_)
          rcases hq with ⟨hfit, rfl, F7, L7, rfl, hM7, hf7⟩ | ⟨hfit, rfl, rfl⟩
          · refine gx_if_eq C 351 dd_Mo_bare_339 (fun h339 => absurd h339 (by decide)) (fun h339 => ?_)
            refine gx_aload_n C 1 dd_Mo_bare_342 (kk := ?_)
            refine mo_get C fd_Mo_23 dd_Mo_bare_343 (kk := ?_)
            refine gx_iload_n C 3 dd_Mo_bare_346 (kk := ?_)
            refine mo_l48 C dd_Mo_bare_347 (by omega) (kk := ?_)
            refine gx_topi (nI ar0.length) hM7.2.2.2.1 ?_
            refine gx_goto C 353 dd_Mo_bare_348 (kk := ?_)
            refine gx_iret C dd_Mo_bare_353 ?_
            have hmk : ba_mk (σ.1 i) = some (am_n (σ.1 i), am_st (σ.1 i), ba_es (σ.1 i) (am_n (σ.1 i)), ar0) := by
              unfold ba_mk
              rw [hE]
              rfl
            have hsp : o_bare σ (nI i) (nI k) = (nI ar0.length, o_set σ k (am_n (σ.1 i), am_st (σ.1 i), ba_es (σ.1 i) (am_n (σ.1 i)), ar0)) := by
              unfold o_bare
              simp only [hi, hk]
              rw [hmk]
              exact o_keep_y hfit
            rw [hsp]
            exact ⟨F7, L7, _, rfl, rs_set hf7 hM7 (mo_w_rs hw0 rfl rfl hr), rfl⟩
          · refine gx_if_eq C 351 dd_Mo_bare_339 (fun h339 => ?_) (fun h339 => absurd rfl h339)
            refine gx_bipush (v := -2) C dd_Mo_bare_351 (kk := ?_)
            refine gx_iret C dd_Mo_bare_353 ?_
            have hmk : ba_mk (σ.1 i) = some (am_n (σ.1 i), am_st (σ.1 i), ba_es (σ.1 i) (am_n (σ.1 i)), ar0) := by
              unfold ba_mk
              rw [hE]
              rfl
            have hsp : o_bare σ (nI i) (nI k) = (-2, σ) := by
              unfold o_bare
              simp only [hi, hk]
              rw [hmk]
              exact o_keep_n hfit
            rw [hsp]
            exact ⟨_, _, _, rfl, mo_w_rs hw0 rfl rfl hr, rfl⟩
        | succ m ih =>
          intro p0 ar0 F0 L0 hp0 hE hM0 hw0 hso0 hab0
          refine gx_iload_n C 0 dd_Mo_bare_53 (kk := ?_)
          refine gx_aload_n C 1 dd_Mo_bare_54 (kk := ?_)
          refine mo_get C fd_Mo_7 dd_Mo_bare_55 (kk := ?_)
          refine gx_iload_n C 2 dd_Mo_bare_58 (kk := ?_)
          refine mo_l44 C dd_Mo_bare_59 (by omega) (kk := ?_)
          refine gx_topi _ (mo_w_is hw0 hi4 (hM i hi4)).1 ?_
          refine gx_icmp_ge C 334 dd_Mo_bare_60 (fun h60 => absurd h60 (nI_ge (by omega) (by omega))) (fun h60 => ?_)
          refine gx_aload_n C 1 dd_Mo_bare_63 (kk := ?_)
          refine gx_iload_n C 2 dd_Mo_bare_64 (kk := ?_)
          refine gx_iload_n C 0 dd_Mo_bare_65 (kk := ?_)
          refine gx_callV C (ct_Mo_spread (gx_l K) D dA ad h F0 L0 S (ia := i) (p0 := p0) hi4 (by omega) (mo_w_is hw0 hi4 (hM i hi4)) hok.1.2.2.1) me_Mo_spread ml_Mo_131 mn_Mo_spread _ (gx_w_at (by decide) mo_h_43) rfl dd_Mo_bare_66 (kk := fun v w hq => ?_)
          obtain ⟨rfl, L2, rfl, hL2, hmi, hnvb⟩ := hq
          have hnvb2 : sp_b 17592186044416 (ba_nr (am_ar (σ.1 i)) p0) := sp_b_mono hnvb (by decide)
          refine gx_bipush (v := nI 65) C dd_Mo_bare_69 (kk := ?_)
          refine gx_iload_n C 2 dd_Mo_bare_71 (kk := ?_)
          refine gx_imul C dd_Mo_bare_72 (kk := ?_)
          refine gx_topi _ (pk_mul _ _) ?_
          refine gx_istore C _ dd_Mo_bare_73 (kk := ?_)
          have others : ∀ m2 j ar1 F1 L1, j + m2 = (am_ar (σ.1 i)).length → mk_run (ba_it (am_ar (σ.1 i)) (ba_nr (am_ar (σ.1 i)) p0) p0) ar0 = mk_run (((am_ar (σ.1 i)).drop j).flatMap (ba_i (ba_nr (am_ar (σ.1 i)) p0) p0)) ar1 → mo_is F1 L1 4 (am_n (σ.1 i), am_st (σ.1 i), ba_es (σ.1 i) p0, ar1) → mo_w F L F1 L1 → mi L1 (ba_nr (am_ar (σ.1 i)) p0) → am_so ar1 → (∀ x ∈ ar1, x.1 < 16384 ∧ x.2 < 35184372088832) → gx_G K D 9 0 0 75 [(4, .int (nI (65 * i + j))), (3, .int (nI p0)), (0, .ref (ad 43)), (1, .int (nI i)), (2, .int (nI k))] [] (gx_w ad (mo_h dA ad h F1 L1 S)) (gx_Z K D dA 0 0 (fun v w => ∃ F2 L2 S2, w = (gx_w ad (mo_h dA ad h F2 L2 S2)) ∧ rs F2 L2 S2 (o_bare σ (nI i) (nI k)).2 ∧ v = some (.int (o_bare σ (nI i) (nI k)).1))) := by
            intro m2
            induction m2 with
            | zero =>
              intro j ar1 F1 L1 hj hE2 hM1 hw1 hmi hso hab
              refine gx_iload C 0 dd_Mo_bare_75 (kk := ?_)
              refine gx_bipush (v := nI 65) C dd_Mo_bare_77 (kk := ?_)
              refine gx_iload_n C 3 dd_Mo_bare_79 (kk := ?_)
              refine gx_imul C dd_Mo_bare_80 (kk := ?_)
              refine gx_topi _ (pk_mul _ _) ?_
              refine gx_aload_n C 2 dd_Mo_bare_81 (kk := ?_)
              refine mo_get C fd_Mo_23 dd_Mo_bare_82 (kk := ?_)
              refine gx_iload_n C 3 dd_Mo_bare_85 (kk := ?_)
              refine mo_l48 C dd_Mo_bare_86 (by omega) (kk := ?_)
              refine gx_topi _ (mo_w_is hw1 hi4 (hM i hi4)).2.2.2.1 ?_
              refine gx_iadd C dd_Mo_bare_87 (kk := ?_)
              refine gx_topi _ (nI_add _ _) ?_
              refine gx_icmp_ge C 201 dd_Mo_bare_88 (fun h88 => ?_) (fun h88 => absurd (nI_le (a := 65 * i + (am_ar (σ.1 i)).length) (b := 65 * i + j) (by omega) (by omega)) h88)
              refine gx_ldc2 C dd_Mo_bare_201 kc_Mo_129 (kk := ?_)
              refine gx_lstore C _ dd_Mo_bare_204 (kk := ?_)
              refine gx_iconst (v := nI 0) C dd_Mo_bare_206 (kk := ?_)
              refine gx_istore C _ dd_Mo_bare_207 (kk := ?_)
              have hE3 : ba_ex (am_ar (σ.1 i)) (am_n (σ.1 i)) 0 [] = ba_ex (am_ar (σ.1 i)) m (p0 + 1) ar1 := by
                rw [hE, ba_exs]
                rw [fm_n (by omega)] at hE2
                rw [hE2]
                rfl
              have ends : ∀ m q, q + m = am_n (σ.1 i) → gx_G K D 9 0 0 209 [(6, .int (nI q)), (4, .long (mf (ba_le (ba_nr (am_ar (σ.1 i)) p0) (am_en (σ.1 i)) q))), (3, .int (nI p0)), (0, .ref (ad 43)), (1, .int (nI i)), (2, .int (nI k))] [] (gx_w ad (mo_h dA ad h F1 L1 S)) (gx_Z K D dA 0 0 (fun v w => ∃ F2 L2 S2, w = (gx_w ad (mo_h dA ad h F2 L2 S2)) ∧ rs F2 L2 S2 (o_bare σ (nI i) (nI k)).2 ∧ v = some (.int (o_bare σ (nI i) (nI k)).1))) := by
                intro m
                induction m with
                | zero =>
                  intro q hq0
                  refine gx_iload C 0 dd_Mo_bare_209 (kk := ?_)
                  refine gx_aload_n C 3 dd_Mo_bare_211 (kk := ?_)
                  refine mo_get C fd_Mo_7 dd_Mo_bare_212 (kk := ?_)
                  refine gx_iload_n C 4 dd_Mo_bare_215 (kk := ?_)
                  refine mo_l44 C dd_Mo_bare_216 (by omega) (kk := ?_)
                  refine gx_topi _ (mo_w_is hw1 hi4 (hM i hi4)).1 ?_
                  refine gx_icmp_ge C 302 dd_Mo_bare_217 (fun h217 => ?_) (fun h217 => absurd (nI_le (a := am_n (σ.1 i)) (b := q) (by omega) (by omega)) h217)
                  obtain rfl : q = am_n (σ.1 i) := by omega
                  rcases hble : ba_le (ba_nr (am_ar (σ.1 i)) p0) (am_en (σ.1 i)) (am_n (σ.1 i)) with _ | e
                  · refine gx_aload_n C 3 dd_Mo_bare_302 (kk := ?_)
                    refine mo_get C fd_Mo_20 dd_Mo_bare_303 (kk := ?_)
                    refine gx_bipush (v := nI 64) C dd_Mo_bare_306 (kk := ?_)
                    refine gx_iload_n C 2 dd_Mo_bare_308 (kk := ?_)
                    refine gx_iadd C dd_Mo_bare_309 (kk := ?_)
                    refine gx_topi _ (nI_add _ _) ?_
                    refine gx_lload C 1 dd_Mo_bare_310 (kk := ?_)
                    refine gx_ldc2 C dd_Mo_bare_312 kc_Mo_129 (kk := ?_)
                    refine gx_lcmp C dd_Mo_bare_315 (kk := ?_)
                    refine gx_if_ge C 324 dd_Mo_bare_316 (fun h316 => ?_) (fun h316 => absurd (by decide) h316)
                    refine gx_ldc2 C dd_Mo_bare_324 kc_Mo_79 (kk := ?_)
                    refine mo_s47 C dd_Mo_bare_327 (by omega) (kk := fun L327 hL327 => ?_)
                    refine gx_iinc C 2 (nI (p0 + 1)) _ dd_Mo_bare_328 (nI_1 _) (kk := ?_)
                    refine gx_goto C 53 dd_Mo_bare_331 (kk := ?_)
                    refine gx_loc [0, 3, 4, 5] ?_
                    have hM6 := mo_is_en (s := 4) (q := p0) (o := none) hL327 rfl hM1
                    rw [← hble] at hM6
                    refine ih (p0 + 1) ar1 F1 L327 (by omega) hE3 ?_ (mo_w_tr hw1 (mo_w_fr (mo_fr_47 (s := 4) (q := p0) (by omega) hL327))) hso hab
                    rw [← ba_es_s]
                    exact hM6
                  · have heb := ba_le_b hnvb2 (fun q e he => Nat.lt_trans (hok.1.2.2.2.1 q e he) (by decide)) _ _ hble
                    refine gx_aload_n C 3 dd_Mo_bare_302 (kk := ?_)
                    refine mo_get C fd_Mo_20 dd_Mo_bare_303 (kk := ?_)
                    refine gx_bipush (v := nI 64) C dd_Mo_bare_306 (kk := ?_)
                    refine gx_iload_n C 2 dd_Mo_bare_308 (kk := ?_)
                    refine gx_iadd C dd_Mo_bare_309 (kk := ?_)
                    refine gx_topi _ (nI_add _ _) ?_
                    refine gx_lload C 1 dd_Mo_bare_310 (kk := ?_)
                    refine gx_ldc2 C dd_Mo_bare_312 kc_Mo_129 (kk := ?_)
                    refine gx_lcmp C dd_Mo_bare_315 (kk := ?_)
                    refine gx_if_ge C 324 dd_Mo_bare_316 (fun h316 => absurd (lc_ge.mp h316) (mf_fl (by omega))) (fun h316 => ?_)
                    refine gx_lload C 1 dd_Mo_bare_319 (kk := ?_)
                    refine gx_goto C 327 dd_Mo_bare_321 (kk := ?_)
                    refine mo_s47 C dd_Mo_bare_327 (by omega) (kk := fun L327 hL327 => ?_)
                    refine gx_iinc C 2 (nI (p0 + 1)) _ dd_Mo_bare_328 (nI_1 _) (kk := ?_)
                    refine gx_goto C 53 dd_Mo_bare_331 (kk := ?_)
                    refine gx_loc [0, 3, 4, 5] ?_
                    have hM6 := mo_is_en (s := 4) (q := p0) (o := (some e)) hL327 rfl hM1
                    rw [← hble] at hM6
                    refine ih (p0 + 1) ar1 F1 L327 (by omega) hE3 ?_ (mo_w_tr hw1 (mo_w_fr (mo_fr_47 (s := 4) (q := p0) (by omega) hL327))) hso hab
                    rw [← ba_es_s]
                    exact hM6
                | succ m ihq =>
                  intro q hq0
                  refine gx_iload C 0 dd_Mo_bare_209 (kk := ?_)
                  refine gx_aload_n C 3 dd_Mo_bare_211 (kk := ?_)
                  refine mo_get C fd_Mo_7 dd_Mo_bare_212 (kk := ?_)
                  refine gx_iload_n C 4 dd_Mo_bare_215 (kk := ?_)
                  refine mo_l44 C dd_Mo_bare_216 (by omega) (kk := ?_)
                  refine gx_topi _ (mo_w_is hw1 hi4 (hM i hi4)).1 ?_
                  refine gx_icmp_ge C 302 dd_Mo_bare_217 (fun h217 => absurd h217 (nI_ge (by omega) (by omega))) (fun h217 => ?_)
                  have hvq0 := hmi q (by omega)
                  rcases hvq : (ba_nr (am_ar (σ.1 i)) p0) q with _ | d
                  · rw [hvq] at hvq0
                    refine gx_aload_n C 3 dd_Mo_bare_220 (kk := ?_)
                    refine mo_get C fd_Mo_50 dd_Mo_bare_221 (kk := ?_)
                    refine gx_iload C 0 dd_Mo_bare_224 (kk := ?_)
                    refine mo_l57 C dd_Mo_bare_226 (by omega) (kk := ?_)
                    refine gx_topl _ hvq0 ?_
                    refine gx_ldc2 C dd_Mo_bare_227 kc_Mo_129 (kk := ?_)
                    refine gx_lcmp C dd_Mo_bare_230 (kk := ?_)
                    refine gx_if_ge C 274 dd_Mo_bare_231 (fun h231 => ?_) (fun h231 => absurd (by decide) h231)
                    refine gx_ldc2 C dd_Mo_bare_274 kc_Mo_129 (kk := ?_)
                    have hoa : co_oa ((ba_nr (am_ar (σ.1 i)) p0) q) (am_en (σ.1 i) q) = none := by
                      rw [hvq]
                      rfl
                    refine gx_topl (mf none) rfl ?_
                    refine gx_lstore C _ dd_Mo_bare_277 (kk := ?_)
                    refine gx_lload C 0 dd_Mo_bare_279 (kk := ?_)
                    refine gx_lload C 2 dd_Mo_bare_281 (kk := ?_)
                    refine gx_lcmp C dd_Mo_bare_283 (kk := ?_)
                    refine gx_if_ge C 292 dd_Mo_bare_284 (fun h284 => ?_) (fun h284 => ?_)
                    · refine gx_lload C 2 dd_Mo_bare_292 (kk := ?_)
                      refine gx_topl (mf (ba_le (ba_nr (am_ar (σ.1 i)) p0) (am_en (σ.1 i)) (q + 1))) ?_ ?_
                      · rw [lc_ge, ← Int64.not_lt, mf_lt (fun y hy => by cases hy) (fun y hy => by have := ba_le_b hnvb2 (fun q e he => Nat.lt_trans (hok.1.2.2.2.1 q e he) (by decide)) _ _ hy; omega)] at h284
                        show _ = mf (om (ba_le (ba_nr (am_ar (σ.1 i)) p0) (am_en (σ.1 i)) q) (co_oa ((ba_nr (am_ar (σ.1 i)) p0) q) (am_en (σ.1 i) q)))
                        rw [hoa, om_n h284]
                      refine gx_lstore C _ dd_Mo_bare_294 (kk := ?_)
                      refine gx_iinc C 2 (nI (q + 1)) _ dd_Mo_bare_296 (nI_1 _) (kk := ?_)
                      refine gx_goto C 209 dd_Mo_bare_299 (kk := ?_)
                      refine gx_loc [0, 1, 3, 4, 5, 6] ?_
                      exact ihq (q + 1) (by omega)
                    · refine gx_lload C 0 dd_Mo_bare_287 (kk := ?_)
                      refine gx_goto C 294 dd_Mo_bare_289 (kk := ?_)
                      refine gx_topl (mf (ba_le (ba_nr (am_ar (σ.1 i)) p0) (am_en (σ.1 i)) (q + 1))) ?_ ?_
                      · rw [lc_ge, ← Int64.not_lt, Classical.not_not, mf_lt (fun y hy => by cases hy) (fun y hy => by have := ba_le_b hnvb2 (fun q e he => Nat.lt_trans (hok.1.2.2.2.1 q e he) (by decide)) _ _ hy; omega)] at h284
                        show _ = mf (om (ba_le (ba_nr (am_ar (σ.1 i)) p0) (am_en (σ.1 i)) q) (co_oa ((ba_nr (am_ar (σ.1 i)) p0) q) (am_en (σ.1 i) q)))
                        rw [hoa, om_y h284]
                      refine gx_lstore C _ dd_Mo_bare_294 (kk := ?_)
                      refine gx_iinc C 2 (nI (q + 1)) _ dd_Mo_bare_296 (nI_1 _) (kk := ?_)
                      refine gx_goto C 209 dd_Mo_bare_299 (kk := ?_)
                      refine gx_loc [0, 1, 3, 4, 5, 6] ?_
                      exact ihq (q + 1) (by omega)
                  · rw [hvq] at hvq0
                    have hdb := hnvb _ _ hvq
                    refine gx_aload_n C 3 dd_Mo_bare_220 (kk := ?_)
                    refine mo_get C fd_Mo_50 dd_Mo_bare_221 (kk := ?_)
                    refine gx_iload C 0 dd_Mo_bare_224 (kk := ?_)
                    refine mo_l57 C dd_Mo_bare_226 (by omega) (kk := ?_)
                    refine gx_topl _ hvq0 ?_
                    refine gx_ldc2 C dd_Mo_bare_227 kc_Mo_129 (kk := ?_)
                    refine gx_lcmp C dd_Mo_bare_230 (kk := ?_)
                    refine gx_if_ge C 274 dd_Mo_bare_231 (fun h231 => absurd (lc_ge.mp h231) (mf_fl (by omega))) (fun h231 => ?_)
                    have heq0 := (mo_w_is hw1 hi4 (hM i hi4)).2.2.1 q (by omega)
                    rcases heq : am_en (σ.1 i) q with _ | e
                    · rw [heq] at heq0
                      refine gx_aload_n C 3 dd_Mo_bare_234 (kk := ?_)
                      refine mo_get C fd_Mo_20 dd_Mo_bare_235 (kk := ?_)
                      refine gx_bipush (v := nI 16) C dd_Mo_bare_238 (kk := ?_)
                      refine gx_iload_n C 4 dd_Mo_bare_240 (kk := ?_)
                      refine gx_imul C dd_Mo_bare_241 (kk := ?_)
                      refine gx_topi _ (pk_mul _ _) ?_
                      refine gx_iload C 0 dd_Mo_bare_242 (kk := ?_)
                      refine gx_iadd C dd_Mo_bare_244 (kk := ?_)
                      refine gx_topi _ (nI_add _ _) ?_
                      refine mo_l47 C dd_Mo_bare_245 (by omega) (kk := ?_)
                      refine gx_topl _ heq0 ?_
                      refine gx_lconst (v := lN 0) C dd_Mo_bare_246 (kk := ?_)
                      refine gx_lcmp C dd_Mo_bare_247 (kk := ?_)
                      refine gx_if_lt C 274 dd_Mo_bare_248 (fun h248 => ?_) (fun h248 => absurd (by decide) h248)
                      refine gx_ldc2 C dd_Mo_bare_274 kc_Mo_129 (kk := ?_)
                      have hoa : co_oa ((ba_nr (am_ar (σ.1 i)) p0) q) (am_en (σ.1 i) q) = none := by
                        rw [hvq, heq]
                        rfl
                      refine gx_topl (mf none) rfl ?_
                      refine gx_lstore C _ dd_Mo_bare_277 (kk := ?_)
                      refine gx_lload C 0 dd_Mo_bare_279 (kk := ?_)
                      refine gx_lload C 2 dd_Mo_bare_281 (kk := ?_)
                      refine gx_lcmp C dd_Mo_bare_283 (kk := ?_)
                      refine gx_if_ge C 292 dd_Mo_bare_284 (fun h284 => ?_) (fun h284 => ?_)
                      · refine gx_lload C 2 dd_Mo_bare_292 (kk := ?_)
                        refine gx_topl (mf (ba_le (ba_nr (am_ar (σ.1 i)) p0) (am_en (σ.1 i)) (q + 1))) ?_ ?_
                        · rw [lc_ge, ← Int64.not_lt, mf_lt (fun y hy => by cases hy) (fun y hy => by have := ba_le_b hnvb2 (fun q e he => Nat.lt_trans (hok.1.2.2.2.1 q e he) (by decide)) _ _ hy; omega)] at h284
                          show _ = mf (om (ba_le (ba_nr (am_ar (σ.1 i)) p0) (am_en (σ.1 i)) q) (co_oa ((ba_nr (am_ar (σ.1 i)) p0) q) (am_en (σ.1 i) q)))
                          rw [hoa, om_n h284]
                        refine gx_lstore C _ dd_Mo_bare_294 (kk := ?_)
                        refine gx_iinc C 2 (nI (q + 1)) _ dd_Mo_bare_296 (nI_1 _) (kk := ?_)
                        refine gx_goto C 209 dd_Mo_bare_299 (kk := ?_)
                        refine gx_loc [0, 1, 3, 4, 5, 6] ?_
                        exact ihq (q + 1) (by omega)
                      · refine gx_lload C 0 dd_Mo_bare_287 (kk := ?_)
                        refine gx_goto C 294 dd_Mo_bare_289 (kk := ?_)
                        refine gx_topl (mf (ba_le (ba_nr (am_ar (σ.1 i)) p0) (am_en (σ.1 i)) (q + 1))) ?_ ?_
                        · rw [lc_ge, ← Int64.not_lt, Classical.not_not, mf_lt (fun y hy => by cases hy) (fun y hy => by have := ba_le_b hnvb2 (fun q e he => Nat.lt_trans (hok.1.2.2.2.1 q e he) (by decide)) _ _ hy; omega)] at h284
                          show _ = mf (om (ba_le (ba_nr (am_ar (σ.1 i)) p0) (am_en (σ.1 i)) q) (co_oa ((ba_nr (am_ar (σ.1 i)) p0) q) (am_en (σ.1 i) q)))
                          rw [hoa, om_y h284]
                        refine gx_lstore C _ dd_Mo_bare_294 (kk := ?_)
                        refine gx_iinc C 2 (nI (q + 1)) _ dd_Mo_bare_296 (nI_1 _) (kk := ?_)
                        refine gx_goto C 209 dd_Mo_bare_299 (kk := ?_)
                        refine gx_loc [0, 1, 3, 4, 5, 6] ?_
                        exact ihq (q + 1) (by omega)
                    · rw [heq] at heq0
                      have heb := hok.1.2.2.2.1 _ _ heq
                      refine gx_aload_n C 3 dd_Mo_bare_234 (kk := ?_)
                      refine mo_get C fd_Mo_20 dd_Mo_bare_235 (kk := ?_)
                      refine gx_bipush (v := nI 16) C dd_Mo_bare_238 (kk := ?_)
                      refine gx_iload_n C 4 dd_Mo_bare_240 (kk := ?_)
                      refine gx_imul C dd_Mo_bare_241 (kk := ?_)
                      refine gx_topi _ (pk_mul _ _) ?_
                      refine gx_iload C 0 dd_Mo_bare_242 (kk := ?_)
                      refine gx_iadd C dd_Mo_bare_244 (kk := ?_)
                      refine gx_topi _ (nI_add _ _) ?_
                      refine mo_l47 C dd_Mo_bare_245 (by omega) (kk := ?_)
                      refine gx_topl _ heq0 ?_
                      refine gx_lconst (v := lN 0) C dd_Mo_bare_246 (kk := ?_)
                      refine gx_lcmp C dd_Mo_bare_247 (kk := ?_)
                      refine gx_if_lt C 274 dd_Mo_bare_248 (fun h248 => absurd (lc_lt.mp h248) (by show ¬ lN e < lN 0; rw [pk_lLT (by omega) (by decide)]; omega)) (fun h248 => ?_)
                      refine gx_aload_n C 3 dd_Mo_bare_251 (kk := ?_)
                      refine mo_get C fd_Mo_50 dd_Mo_bare_252 (kk := ?_)
                      refine gx_iload C 0 dd_Mo_bare_255 (kk := ?_)
                      refine mo_l57 C dd_Mo_bare_257 (by omega) (kk := ?_)
                      refine gx_topl _ hvq0 ?_
                      refine gx_aload_n C 3 dd_Mo_bare_258 (kk := ?_)
                      refine mo_get C fd_Mo_20 dd_Mo_bare_259 (kk := ?_)
                      refine gx_bipush (v := nI 16) C dd_Mo_bare_262 (kk := ?_)
                      refine gx_iload_n C 4 dd_Mo_bare_264 (kk := ?_)
                      refine gx_imul C dd_Mo_bare_265 (kk := ?_)
                      refine gx_topi _ (pk_mul _ _) ?_
                      refine gx_iload C 0 dd_Mo_bare_266 (kk := ?_)
                      refine gx_iadd C dd_Mo_bare_268 (kk := ?_)
                      refine gx_topi _ (nI_add _ _) ?_
                      refine mo_l47 C dd_Mo_bare_269 (by omega) (kk := ?_)
                      refine gx_topl _ heq0 ?_
                      refine gx_ladd C dd_Mo_bare_270 (kk := ?_)
                      refine gx_topl _ (lN_add _ _) ?_
                      refine gx_goto C 277 dd_Mo_bare_271 (kk := ?_)
                      have hoa : co_oa ((ba_nr (am_ar (σ.1 i)) p0) q) (am_en (σ.1 i) q) = (some (d + e)) := by
                        rw [hvq, heq]
                        rfl
                      refine gx_topl (mf (some (d + e))) rfl ?_
                      refine gx_lstore C _ dd_Mo_bare_277 (kk := ?_)
                      refine gx_lload C 0 dd_Mo_bare_279 (kk := ?_)
                      refine gx_lload C 2 dd_Mo_bare_281 (kk := ?_)
                      refine gx_lcmp C dd_Mo_bare_283 (kk := ?_)
                      refine gx_if_ge C 292 dd_Mo_bare_284 (fun h284 => ?_) (fun h284 => ?_)
                      · refine gx_lload C 2 dd_Mo_bare_292 (kk := ?_)
                        refine gx_topl (mf (ba_le (ba_nr (am_ar (σ.1 i)) p0) (am_en (σ.1 i)) (q + 1))) ?_ ?_
                        · rw [lc_ge, ← Int64.not_lt, mf_lt (fun y hy => by cases hy; omega) (fun y hy => by have := ba_le_b hnvb2 (fun q e he => Nat.lt_trans (hok.1.2.2.2.1 q e he) (by decide)) _ _ hy; omega)] at h284
                          show _ = mf (om (ba_le (ba_nr (am_ar (σ.1 i)) p0) (am_en (σ.1 i)) q) (co_oa ((ba_nr (am_ar (σ.1 i)) p0) q) (am_en (σ.1 i) q)))
                          rw [hoa, om_n h284]
                        refine gx_lstore C _ dd_Mo_bare_294 (kk := ?_)
                        refine gx_iinc C 2 (nI (q + 1)) _ dd_Mo_bare_296 (nI_1 _) (kk := ?_)
                        refine gx_goto C 209 dd_Mo_bare_299 (kk := ?_)
                        refine gx_loc [0, 1, 3, 4, 5, 6] ?_
                        exact ihq (q + 1) (by omega)
                      · refine gx_lload C 0 dd_Mo_bare_287 (kk := ?_)
                        refine gx_goto C 294 dd_Mo_bare_289 (kk := ?_)
                        refine gx_topl (mf (ba_le (ba_nr (am_ar (σ.1 i)) p0) (am_en (σ.1 i)) (q + 1))) ?_ ?_
                        · rw [lc_ge, ← Int64.not_lt, Classical.not_not, mf_lt (fun y hy => by cases hy; omega) (fun y hy => by have := ba_le_b hnvb2 (fun q e he => Nat.lt_trans (hok.1.2.2.2.1 q e he) (by decide)) _ _ hy; omega)] at h284
                          show _ = mf (om (ba_le (ba_nr (am_ar (σ.1 i)) p0) (am_en (σ.1 i)) q) (co_oa ((ba_nr (am_ar (σ.1 i)) p0) q) (am_en (σ.1 i) q)))
                          rw [hoa, om_y h284]
                        refine gx_lstore C _ dd_Mo_bare_294 (kk := ?_)
                        refine gx_iinc C 2 (nI (q + 1)) _ dd_Mo_bare_296 (nI_1 _) (kk := ?_)
                        refine gx_goto C 209 dd_Mo_bare_299 (kk := ?_)
                        refine gx_loc [0, 1, 3, 4, 5, 6] ?_
                        exact ihq (q + 1) (by omega)
              exact ends (am_n (σ.1 i)) 0 (by omega)
            | succ m2 ihj =>
              intro j ar1 F1 L1 hj hE2 hM1 hw1 hmi hso hab
              obtain ⟨x, hx⟩ : ∃ x, (am_ar (σ.1 i))[j]? = some x := ⟨_, List.getElem?_eq_getElem (by omega)⟩
              have hxa := (mo_w_is hw1 hi4 (hM i hi4)).2.2.2.2.1 j x hx
              have hxb := hok.1.2.2.1 x (List.mem_of_getElem? hx)
              refine gx_iload C 0 dd_Mo_bare_75 (kk := ?_)
              refine gx_bipush (v := nI 65) C dd_Mo_bare_77 (kk := ?_)
              refine gx_iload_n C 3 dd_Mo_bare_79 (kk := ?_)
              refine gx_imul C dd_Mo_bare_80 (kk := ?_)
              refine gx_topi _ (pk_mul _ _) ?_
              refine gx_aload_n C 2 dd_Mo_bare_81 (kk := ?_)
              refine mo_get C fd_Mo_23 dd_Mo_bare_82 (kk := ?_)
              refine gx_iload_n C 3 dd_Mo_bare_85 (kk := ?_)
              refine mo_l48 C dd_Mo_bare_86 (by omega) (kk := ?_)
              refine gx_topi _ (mo_w_is hw1 hi4 (hM i hi4)).2.2.2.1 ?_
              refine gx_iadd C dd_Mo_bare_87 (kk := ?_)
              refine gx_topi _ (nI_add _ _) ?_
              refine gx_icmp_ge C 201 dd_Mo_bare_88 (fun h88 => absurd h88 (nI_ge (by omega) (by omega))) (fun h88 => ?_)
              rcases (show ¬ x.1 / 128 % 8 = 0 ∨ (x.1 / 128 % 8 = 0 ∧ ¬ x.1 / 16 % 8 = 0) ∨ (x.1 / 128 % 8 = 0 ∧ x.1 / 16 % 8 = 0) by omega) with z1 | ⟨z1, z2⟩ | ⟨z1, z2⟩
              · refine gx_aload_n C 2 dd_Mo_bare_91 (kk := ?_)
                refine mo_get C fd_Mo_32 dd_Mo_bare_92 (kk := ?_)
                refine gx_iload C 0 dd_Mo_bare_95 (kk := ?_)
                refine mo_l51 C dd_Mo_bare_97 (by omega) (kk := ?_)
                refine gx_topi _ hxa.2.2.1 ?_
                refine gx_if_ne C 111 dd_Mo_bare_98 (fun h98 => ?_) (fun h98 => absurd h98 (nI_ne0 (by omega) (by omega)))
                have hvf0 := hmi (x.1 / 1024) (by omega)
                rcases hvf : (ba_nr (am_ar (σ.1 i)) p0) (x.1 / 1024) with _ | d
                · rw [hvf] at hvf0
                  have hg : ba_i (ba_nr (am_ar (σ.1 i)) p0) p0 x = [] := by
                    unfold ba_i
                    rw [if_neg (by omega), hvf]
                  refine gx_aload_n C 2 dd_Mo_bare_111 (kk := ?_)
                  refine mo_get C fd_Mo_50 dd_Mo_bare_112 (kk := ?_)
                  refine gx_aload_n C 2 dd_Mo_bare_115 (kk := ?_)
                  refine mo_get C fd_Mo_26 dd_Mo_bare_116 (kk := ?_)
                  refine gx_iload C 0 dd_Mo_bare_119 (kk := ?_)
                  refine mo_l49 C dd_Mo_bare_121 (by omega) (kk := ?_)
                  refine gx_topi _ hxa.1 ?_
                  refine mo_l57 C dd_Mo_bare_122 (by omega) (kk := ?_)
                  refine gx_topl _ hvf0 ?_
                  refine gx_ldc2 C dd_Mo_bare_123 kc_Mo_129 (kk := ?_)
                  refine gx_lcmp C dd_Mo_bare_126 (kk := ?_)
                  refine gx_if_ge C 134 dd_Mo_bare_127 (fun h127 => ?_) (fun h127 => absurd (by decide) h127)
                  refine gx_iconst (v := nI 0) C dd_Mo_bare_134 (kk := ?_)
                  refine gx_istore C _ dd_Mo_bare_135 (kk := ?_)
                  refine gx_iload C 0 dd_Mo_bare_137 (kk := ?_)
                  refine gx_if_eq C 195 dd_Mo_bare_139 (fun h139 => ?_) (fun h139 => absurd rfl h139)
                  refine gx_iinc C 1 (nI (65 * i + (j + 1))) _ dd_Mo_bare_195 (nI_1 _) (kk := ?_)
                  refine gx_goto C 75 dd_Mo_bare_198 (kk := ?_)
                  refine gx_loc [0, 2, 3, 4, 5] ?_
                  exact ihj (j + 1) ar1 F1 L1 (by omega) (by rw [hE2, fm_d hx, hg, List.nil_append]) hM1 hw1 hmi hso hab
                · rw [hvf] at hvf0
                  have hdb := hnvb _ _ hvf
                  have hg : ba_i (ba_nr (am_ar (σ.1 i)) p0) p0 x = [(p0 * 1024 + x.1 / 16 % 64 * 16 + x.1 % 16, d + x.2)] := by
                    unfold ba_i
                    rw [if_neg (by omega), hvf]
                  refine gx_aload_n C 2 dd_Mo_bare_111 (kk := ?_)
                  refine mo_get C fd_Mo_50 dd_Mo_bare_112 (kk := ?_)
                  refine gx_aload_n C 2 dd_Mo_bare_115 (kk := ?_)
                  refine mo_get C fd_Mo_26 dd_Mo_bare_116 (kk := ?_)
                  refine gx_iload C 0 dd_Mo_bare_119 (kk := ?_)
                  refine mo_l49 C dd_Mo_bare_121 (by omega) (kk := ?_)
                  refine gx_topi _ hxa.1 ?_
                  refine mo_l57 C dd_Mo_bare_122 (by omega) (kk := ?_)
                  refine gx_topl _ hvf0 ?_
                  refine gx_ldc2 C dd_Mo_bare_123 kc_Mo_129 (kk := ?_)
                  refine gx_lcmp C dd_Mo_bare_126 (kk := ?_)
                  refine gx_if_ge C 134 dd_Mo_bare_127 (fun h127 => absurd (lc_ge.mp h127) (mf_fl (by omega))) (fun h127 => ?_)
                  refine gx_iconst (v := nI 1) C dd_Mo_bare_130 (kk := ?_)
                  refine gx_goto C 135 dd_Mo_bare_131 (kk := ?_)
                  refine gx_istore C _ dd_Mo_bare_135 (kk := ?_)
                  refine gx_iload C 0 dd_Mo_bare_137 (kk := ?_)
                  refine gx_if_eq C 195 dd_Mo_bare_139 (fun h139 => absurd h139 (by decide)) (fun h139 => ?_)
                  refine gx_aload_n C 3 dd_Mo_bare_142 (kk := ?_)
                  refine gx_iconst (v := nI 4) C dd_Mo_bare_143 (kk := ?_)
                  refine gx_iload_n C 2 dd_Mo_bare_144 (kk := ?_)
                  refine gx_aload_n C 3 dd_Mo_bare_145 (kk := ?_)
                  refine mo_get C fd_Mo_29 dd_Mo_bare_146 (kk := ?_)
                  refine gx_iload C 1 dd_Mo_bare_149 (kk := ?_)
                  refine mo_l50 C dd_Mo_bare_151 (by omega) (kk := ?_)
                  refine gx_topi _ hxa.2.1 ?_
                  refine gx_aload_n C 3 dd_Mo_bare_152 (kk := ?_)
                  refine mo_get C fd_Mo_32 dd_Mo_bare_153 (kk := ?_)
                  refine gx_iload C 1 dd_Mo_bare_156 (kk := ?_)
                  refine mo_l51 C dd_Mo_bare_158 (by omega) (kk := ?_)
                  refine gx_topi _ hxa.2.2.1 ?_
                  refine gx_aload_n C 3 dd_Mo_bare_159 (kk := ?_)
                  refine mo_get C fd_Mo_35 dd_Mo_bare_160 (kk := ?_)
                  refine gx_iload C 1 dd_Mo_bare_163 (kk := ?_)
                  refine mo_l52 C dd_Mo_bare_165 (by omega) (kk := ?_)
                  refine gx_topi _ hxa.2.2.2.1 ?_
                  refine gx_aload_n C 3 dd_Mo_bare_166 (kk := ?_)
                  refine mo_get C fd_Mo_50 dd_Mo_bare_167 (kk := ?_)
                  refine gx_aload_n C 3 dd_Mo_bare_170 (kk := ?_)
                  refine mo_get C fd_Mo_26 dd_Mo_bare_171 (kk := ?_)
                  refine gx_iload C 1 dd_Mo_bare_174 (kk := ?_)
                  refine mo_l49 C dd_Mo_bare_176 (by omega) (kk := ?_)
                  refine gx_topi _ hxa.1 ?_
                  refine mo_l57 C dd_Mo_bare_177 (by omega) (kk := ?_)
                  refine gx_topl _ hvf0 ?_
                  refine gx_aload_n C 3 dd_Mo_bare_178 (kk := ?_)
                  refine mo_get C fd_Mo_38 dd_Mo_bare_179 (kk := ?_)
                  refine gx_iload C 1 dd_Mo_bare_182 (kk := ?_)
                  refine mo_l53 C dd_Mo_bare_184 (by omega) (kk := ?_)
                  refine gx_topl _ hxa.2.2.2.2 ?_
                  refine gx_ladd C dd_Mo_bare_185 (kk := ?_)
                  refine gx_topl _ (lN_add _ _) ?_
                  refine gx_callV C (ct_Mo_put (gx_l K) D dA ad h F1 L1 S (s := 4) (f := p0) (t := x.1 % 16) (i := x.1 / 128 % 8) (o := x.1 / 16 % 8) (x0 := d + x.2) (B := 35184372088832) (a := (am_n (σ.1 i), am_st (σ.1 i), ba_es (σ.1 i) p0, ar1)) (by decide) hM1 hso (fun z hz => (hab z hz).1) (fun z hz => (hab z hz).2) (by decide) (by omega) (by omega) (by omega) (by omega) (by omega)) me_Mo_put ml_Mo_99 mn_Mo_put _ (gx_w_at (by decide) mo_h_43) rfl dd_Mo_bare_186 (kk := fun v w hq => ?_)
                  rw [show pr_k p0 (x.1 / 128 % 8) (x.1 / 16 % 8) (x.1 % 16) = p0 * 1024 + x.1 / 16 % 64 * 16 + x.1 % 16 by unfold pr_k; omega] at hq
                  rcases hq with ⟨hr3, rfl, F3, L3, rfl, hM3, hf3⟩ | ⟨hr3, rfl, rfl⟩
                  · have hE4 : mk_run (ba_it (am_ar (σ.1 i)) (ba_nr (am_ar (σ.1 i)) p0) p0) ar0 = mk_run (((am_ar (σ.1 i)).drop (j + 1)).flatMap (ba_i (ba_nr (am_ar (σ.1 i)) p0) p0)) (am_in (p0 * 1024 + x.1 / 16 % 64 * 16 + x.1 % 16) (d + x.2) ar1) := by
                      rw [hE2, fm_d hx, hg, List.singleton_append]
                      exact mk_run_y hr3
                    refine gx_if_ne C 195 dd_Mo_bare_189 (fun h189 => ?_) (fun h189 => absurd h189 (by decide))
                    refine gx_iinc C 1 (nI (65 * i + (j + 1))) _ dd_Mo_bare_195 (nI_1 _) (kk := ?_)
                    refine gx_goto C 75 dd_Mo_bare_198 (kk := ?_)
                    refine gx_loc [0, 2, 3, 4, 5] ?_
                    exact ihj (j + 1) _ F3 L3 (by omega) hE4 hM3 (mo_w_tr hw1 (mo_w_fr hf3)) (mi_k (hf3.2.2.2 57 (by decide)).2 hmi) (am_in_so hso) (mb_arb hab (by omega) (by omega))
                  · have hN : mk_run (ba_it (am_ar (σ.1 i)) (ba_nr (am_ar (σ.1 i)) p0) p0) ar0 = none := by
                      rw [hE2, fm_d hx, hg, List.singleton_append]
                      exact mk_run_n hr3
                    refine gx_if_ne C 195 dd_Mo_bare_189 (fun h189 => absurd rfl h189) (fun h189 => ?_)
                    refine gx_bipush (v := -2) C dd_Mo_bare_192 (kk := ?_)
                    refine gx_iret C dd_Mo_bare_194 ?_
                    have hmk : ba_mk (σ.1 i) = none := by
                      unfold ba_mk
                      rw [hE, ba_exs, hN]
                    have hsp : o_bare σ (nI i) (nI k) = (-2, σ) := by
                      unfold o_bare
                      simp only [hi, hk, hmk]
                      rfl
                    rw [hsp]
                    exact ⟨_, _, _, rfl, mo_w_rs hw1 rfl rfl hr, rfl⟩
              · refine gx_aload_n C 2 dd_Mo_bare_91 (kk := ?_)
                refine mo_get C fd_Mo_32 dd_Mo_bare_92 (kk := ?_)
                refine gx_iload C 0 dd_Mo_bare_95 (kk := ?_)
                refine mo_l51 C dd_Mo_bare_97 (by omega) (kk := ?_)
                refine gx_topi _ hxa.2.2.1 ?_
                refine gx_if_ne C 111 dd_Mo_bare_98 (fun h98 => absurd (show nI (x.1 / 128 % 8) = 0 by rw [z1]; rfl) h98) (fun h98 => ?_)
                refine gx_aload_n C 2 dd_Mo_bare_101 (kk := ?_)
                refine mo_get C fd_Mo_35 dd_Mo_bare_102 (kk := ?_)
                refine gx_iload C 0 dd_Mo_bare_105 (kk := ?_)
                refine mo_l52 C dd_Mo_bare_107 (by omega) (kk := ?_)
                refine gx_topi _ hxa.2.2.2.1 ?_
                refine gx_if_eq C 134 dd_Mo_bare_108 (fun h108 => absurd h108 (nI_ne0 (by omega) (by omega))) (fun h108 => ?_)
                have hvf0 := hmi (x.1 / 1024) (by omega)
                rcases hvf : (ba_nr (am_ar (σ.1 i)) p0) (x.1 / 1024) with _ | d
                · rw [hvf] at hvf0
                  have hg : ba_i (ba_nr (am_ar (σ.1 i)) p0) p0 x = [] := by
                    unfold ba_i
                    rw [if_neg (by omega), hvf]
                  refine gx_aload_n C 2 dd_Mo_bare_111 (kk := ?_)
                  refine mo_get C fd_Mo_50 dd_Mo_bare_112 (kk := ?_)
                  refine gx_aload_n C 2 dd_Mo_bare_115 (kk := ?_)
                  refine mo_get C fd_Mo_26 dd_Mo_bare_116 (kk := ?_)
                  refine gx_iload C 0 dd_Mo_bare_119 (kk := ?_)
                  refine mo_l49 C dd_Mo_bare_121 (by omega) (kk := ?_)
                  refine gx_topi _ hxa.1 ?_
                  refine mo_l57 C dd_Mo_bare_122 (by omega) (kk := ?_)
                  refine gx_topl _ hvf0 ?_
                  refine gx_ldc2 C dd_Mo_bare_123 kc_Mo_129 (kk := ?_)
                  refine gx_lcmp C dd_Mo_bare_126 (kk := ?_)
                  refine gx_if_ge C 134 dd_Mo_bare_127 (fun h127 => ?_) (fun h127 => absurd (by decide) h127)
                  refine gx_iconst (v := nI 0) C dd_Mo_bare_134 (kk := ?_)
                  refine gx_istore C _ dd_Mo_bare_135 (kk := ?_)
                  refine gx_iload C 0 dd_Mo_bare_137 (kk := ?_)
                  refine gx_if_eq C 195 dd_Mo_bare_139 (fun h139 => ?_) (fun h139 => absurd rfl h139)
                  refine gx_iinc C 1 (nI (65 * i + (j + 1))) _ dd_Mo_bare_195 (nI_1 _) (kk := ?_)
                  refine gx_goto C 75 dd_Mo_bare_198 (kk := ?_)
                  refine gx_loc [0, 2, 3, 4, 5] ?_
                  exact ihj (j + 1) ar1 F1 L1 (by omega) (by rw [hE2, fm_d hx, hg, List.nil_append]) hM1 hw1 hmi hso hab
                · rw [hvf] at hvf0
                  have hdb := hnvb _ _ hvf
                  have hg : ba_i (ba_nr (am_ar (σ.1 i)) p0) p0 x = [(p0 * 1024 + x.1 / 16 % 64 * 16 + x.1 % 16, d + x.2)] := by
                    unfold ba_i
                    rw [if_neg (by omega), hvf]
                  refine gx_aload_n C 2 dd_Mo_bare_111 (kk := ?_)
                  refine mo_get C fd_Mo_50 dd_Mo_bare_112 (kk := ?_)
                  refine gx_aload_n C 2 dd_Mo_bare_115 (kk := ?_)
                  refine mo_get C fd_Mo_26 dd_Mo_bare_116 (kk := ?_)
                  refine gx_iload C 0 dd_Mo_bare_119 (kk := ?_)
                  refine mo_l49 C dd_Mo_bare_121 (by omega) (kk := ?_)
                  refine gx_topi _ hxa.1 ?_
                  refine mo_l57 C dd_Mo_bare_122 (by omega) (kk := ?_)
                  refine gx_topl _ hvf0 ?_
                  refine gx_ldc2 C dd_Mo_bare_123 kc_Mo_129 (kk := ?_)
                  refine gx_lcmp C dd_Mo_bare_126 (kk := ?_)
                  refine gx_if_ge C 134 dd_Mo_bare_127 (fun h127 => absurd (lc_ge.mp h127) (mf_fl (by omega))) (fun h127 => ?_)
                  refine gx_iconst (v := nI 1) C dd_Mo_bare_130 (kk := ?_)
                  refine gx_goto C 135 dd_Mo_bare_131 (kk := ?_)
                  refine gx_istore C _ dd_Mo_bare_135 (kk := ?_)
                  refine gx_iload C 0 dd_Mo_bare_137 (kk := ?_)
                  refine gx_if_eq C 195 dd_Mo_bare_139 (fun h139 => absurd h139 (by decide)) (fun h139 => ?_)
                  refine gx_aload_n C 3 dd_Mo_bare_142 (kk := ?_)
                  refine gx_iconst (v := nI 4) C dd_Mo_bare_143 (kk := ?_)
                  refine gx_iload_n C 2 dd_Mo_bare_144 (kk := ?_)
                  refine gx_aload_n C 3 dd_Mo_bare_145 (kk := ?_)
                  refine mo_get C fd_Mo_29 dd_Mo_bare_146 (kk := ?_)
                  refine gx_iload C 1 dd_Mo_bare_149 (kk := ?_)
                  refine mo_l50 C dd_Mo_bare_151 (by omega) (kk := ?_)
                  refine gx_topi _ hxa.2.1 ?_
                  refine gx_aload_n C 3 dd_Mo_bare_152 (kk := ?_)
                  refine mo_get C fd_Mo_32 dd_Mo_bare_153 (kk := ?_)
                  refine gx_iload C 1 dd_Mo_bare_156 (kk := ?_)
                  refine mo_l51 C dd_Mo_bare_158 (by omega) (kk := ?_)
                  refine gx_topi _ hxa.2.2.1 ?_
                  refine gx_aload_n C 3 dd_Mo_bare_159 (kk := ?_)
                  refine mo_get C fd_Mo_35 dd_Mo_bare_160 (kk := ?_)
                  refine gx_iload C 1 dd_Mo_bare_163 (kk := ?_)
                  refine mo_l52 C dd_Mo_bare_165 (by omega) (kk := ?_)
                  refine gx_topi _ hxa.2.2.2.1 ?_
                  refine gx_aload_n C 3 dd_Mo_bare_166 (kk := ?_)
                  refine mo_get C fd_Mo_50 dd_Mo_bare_167 (kk := ?_)
                  refine gx_aload_n C 3 dd_Mo_bare_170 (kk := ?_)
                  refine mo_get C fd_Mo_26 dd_Mo_bare_171 (kk := ?_)
                  refine gx_iload C 1 dd_Mo_bare_174 (kk := ?_)
                  refine mo_l49 C dd_Mo_bare_176 (by omega) (kk := ?_)
                  refine gx_topi _ hxa.1 ?_
                  refine mo_l57 C dd_Mo_bare_177 (by omega) (kk := ?_)
                  refine gx_topl _ hvf0 ?_
                  refine gx_aload_n C 3 dd_Mo_bare_178 (kk := ?_)
                  refine mo_get C fd_Mo_38 dd_Mo_bare_179 (kk := ?_)
                  refine gx_iload C 1 dd_Mo_bare_182 (kk := ?_)
                  refine mo_l53 C dd_Mo_bare_184 (by omega) (kk := ?_)
                  refine gx_topl _ hxa.2.2.2.2 ?_
                  refine gx_ladd C dd_Mo_bare_185 (kk := ?_)
                  refine gx_topl _ (lN_add _ _) ?_
                  refine gx_callV C (ct_Mo_put (gx_l K) D dA ad h F1 L1 S (s := 4) (f := p0) (t := x.1 % 16) (i := x.1 / 128 % 8) (o := x.1 / 16 % 8) (x0 := d + x.2) (B := 35184372088832) (a := (am_n (σ.1 i), am_st (σ.1 i), ba_es (σ.1 i) p0, ar1)) (by decide) hM1 hso (fun z hz => (hab z hz).1) (fun z hz => (hab z hz).2) (by decide) (by omega) (by omega) (by omega) (by omega) (by omega)) me_Mo_put ml_Mo_99 mn_Mo_put _ (gx_w_at (by decide) mo_h_43) rfl dd_Mo_bare_186 (kk := fun v w hq => ?_)
                  rw [show pr_k p0 (x.1 / 128 % 8) (x.1 / 16 % 8) (x.1 % 16) = p0 * 1024 + x.1 / 16 % 64 * 16 + x.1 % 16 by unfold pr_k; omega] at hq
                  rcases hq with ⟨hr3, rfl, F3, L3, rfl, hM3, hf3⟩ | ⟨hr3, rfl, rfl⟩
                  · have hE4 : mk_run (ba_it (am_ar (σ.1 i)) (ba_nr (am_ar (σ.1 i)) p0) p0) ar0 = mk_run (((am_ar (σ.1 i)).drop (j + 1)).flatMap (ba_i (ba_nr (am_ar (σ.1 i)) p0) p0)) (am_in (p0 * 1024 + x.1 / 16 % 64 * 16 + x.1 % 16) (d + x.2) ar1) := by
                      rw [hE2, fm_d hx, hg, List.singleton_append]
                      exact mk_run_y hr3
                    refine gx_if_ne C 195 dd_Mo_bare_189 (fun h189 => ?_) (fun h189 => absurd h189 (by decide))
                    refine gx_iinc C 1 (nI (65 * i + (j + 1))) _ dd_Mo_bare_195 (nI_1 _) (kk := ?_)
                    refine gx_goto C 75 dd_Mo_bare_198 (kk := ?_)
                    refine gx_loc [0, 2, 3, 4, 5] ?_
                    exact ihj (j + 1) _ F3 L3 (by omega) hE4 hM3 (mo_w_tr hw1 (mo_w_fr hf3)) (mi_k (hf3.2.2.2 57 (by decide)).2 hmi) (am_in_so hso) (mb_arb hab (by omega) (by omega))
                  · have hN : mk_run (ba_it (am_ar (σ.1 i)) (ba_nr (am_ar (σ.1 i)) p0) p0) ar0 = none := by
                      rw [hE2, fm_d hx, hg, List.singleton_append]
                      exact mk_run_n hr3
                    refine gx_if_ne C 195 dd_Mo_bare_189 (fun h189 => absurd rfl h189) (fun h189 => ?_)
                    refine gx_bipush (v := -2) C dd_Mo_bare_192 (kk := ?_)
                    refine gx_iret C dd_Mo_bare_194 ?_
                    have hmk : ba_mk (σ.1 i) = none := by
                      unfold ba_mk
                      rw [hE, ba_exs, hN]
                    have hsp : o_bare σ (nI i) (nI k) = (-2, σ) := by
                      unfold o_bare
                      simp only [hi, hk, hmk]
                      rfl
                    rw [hsp]
                    exact ⟨_, _, _, rfl, mo_w_rs hw1 rfl rfl hr, rfl⟩
              · have hg : ba_i (ba_nr (am_ar (σ.1 i)) p0) p0 x = [] := if_pos (by omega)
                refine gx_aload_n C 2 dd_Mo_bare_91 (kk := ?_)
                refine mo_get C fd_Mo_32 dd_Mo_bare_92 (kk := ?_)
                refine gx_iload C 0 dd_Mo_bare_95 (kk := ?_)
                refine mo_l51 C dd_Mo_bare_97 (by omega) (kk := ?_)
                refine gx_topi _ hxa.2.2.1 ?_
                refine gx_if_ne C 111 dd_Mo_bare_98 (fun h98 => absurd (show nI (x.1 / 128 % 8) = 0 by rw [z1]; rfl) h98) (fun h98 => ?_)
                refine gx_aload_n C 2 dd_Mo_bare_101 (kk := ?_)
                refine mo_get C fd_Mo_35 dd_Mo_bare_102 (kk := ?_)
                refine gx_iload C 0 dd_Mo_bare_105 (kk := ?_)
                refine mo_l52 C dd_Mo_bare_107 (by omega) (kk := ?_)
                refine gx_topi _ hxa.2.2.2.1 ?_
                refine gx_if_eq C 134 dd_Mo_bare_108 (fun h108 => ?_) (fun h108 => absurd (show nI (x.1 / 16 % 8) = 0 by rw [z2]; rfl) h108)
                refine gx_iconst (v := nI 0) C dd_Mo_bare_134 (kk := ?_)
                refine gx_istore C _ dd_Mo_bare_135 (kk := ?_)
                refine gx_iload C 0 dd_Mo_bare_137 (kk := ?_)
                refine gx_if_eq C 195 dd_Mo_bare_139 (fun h139 => ?_) (fun h139 => absurd rfl h139)
                refine gx_iinc C 1 (nI (65 * i + (j + 1))) _ dd_Mo_bare_195 (nI_1 _) (kk := ?_)
                refine gx_goto C 75 dd_Mo_bare_198 (kk := ?_)
                refine gx_loc [0, 2, 3, 4, 5] ?_
                exact ihj (j + 1) ar1 F1 L1 (by omega) (by rw [hE2, fm_d hx, hg, List.nil_append]) hM1 hw1 hmi hso hab
          exact others (am_ar (σ.1 i)).length 0 ar0 F0 L2 (by omega) rfl (mo_is_k (fun _ _ => rfl) (fun k hk => hL2 k (by omega)) hM0) (mo_w_tr hw0 (mo_w_k (fun _ _ => rfl) (fun k hk => hL2 k (by omega)))) hmi hso0 hab0
      exact main (am_n (σ.1 i)) 0 [] F38 L50 (by omega) rfl (by rw [show ba_es (σ.1 i) 0 = fun _ => none from funext fun q => if_neg (Nat.not_lt_zero _)]; exact hM5) hw5 List.Pairwise.nil (fun x hx => absurd hx List.not_mem_nil)
