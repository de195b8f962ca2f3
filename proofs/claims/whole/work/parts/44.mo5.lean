theorem dd_Mo_reach_0 : decode cc_Mo_reach 0 = .ok (.iload_n 1, 1) := by decide +kernel
theorem dd_Mo_reach_1 : decode cc_Mo_reach 1 = .ok (.bipush 16, 2) := by decide +kernel
theorem dd_Mo_reach_3 : decode cc_Mo_reach 3 = .ok (.iload_n 2, 1) := by decide +kernel
theorem dd_Mo_reach_4 : decode cc_Mo_reach 4 = .ok (.imul, 1) := by decide +kernel
theorem dd_Mo_reach_5 : decode cc_Mo_reach 5 = .ok (.iadd, 1) := by decide +kernel
theorem dd_Mo_reach_6 : decode cc_Mo_reach 6 = .ok (.sipush 256, 3) := by decide +kernel
theorem dd_Mo_reach_9 : decode cc_Mo_reach 9 = .ok (.iload_n 3, 1) := by decide +kernel
theorem dd_Mo_reach_10 : decode cc_Mo_reach 10 = .ok (.imul, 1) := by decide +kernel
theorem dd_Mo_reach_11 : decode cc_Mo_reach 11 = .ok (.iadd, 1) := by decide +kernel
theorem dd_Mo_reach_12 : decode cc_Mo_reach 12 = .ok (.istore 4, 2) := by decide +kernel
theorem dd_Mo_reach_14 : decode cc_Mo_reach 14 = .ok (.iconst 0, 1) := by decide +kernel
theorem dd_Mo_reach_15 : decode cc_Mo_reach 15 = .ok (.istore 5, 2) := by decide +kernel
theorem dd_Mo_reach_17 : decode cc_Mo_reach 17 = .ok (.iload 5, 2) := by decide +kernel
theorem dd_Mo_reach_19 : decode cc_Mo_reach 19 = .ok (.aload_n 0, 1) := by decide +kernel
theorem dd_Mo_reach_20 : decode cc_Mo_reach 20 = .ok (.getfield 103, 3) := by decide +kernel
theorem dd_Mo_reach_23 : decode cc_Mo_reach 23 = .ok (.if_icmp .ge 24, 3) := by decide +kernel
theorem dd_Mo_reach_26 : decode cc_Mo_reach 26 = .ok (.aload_n 0, 1) := by decide +kernel
theorem dd_Mo_reach_27 : decode cc_Mo_reach 27 = .ok (.getfield 69, 3) := by decide +kernel
theorem dd_Mo_reach_30 : decode cc_Mo_reach 30 = .ok (.iload 5, 2) := by decide +kernel
theorem dd_Mo_reach_32 : decode cc_Mo_reach 32 = .ok (.iaload, 1) := by decide +kernel
theorem dd_Mo_reach_33 : decode cc_Mo_reach 33 = .ok (.iload 4, 2) := by decide +kernel
theorem dd_Mo_reach_35 : decode cc_Mo_reach 35 = .ok (.if_icmp .ne 6, 3) := by decide +kernel
theorem dd_Mo_reach_38 : decode cc_Mo_reach 38 = .ok (.iload 5, 2) := by decide +kernel
theorem dd_Mo_reach_40 : decode cc_Mo_reach 40 = .ok (.ireturn, 1) := by decide +kernel
theorem dd_Mo_reach_41 : decode cc_Mo_reach 41 = .ok (.iinc 5 1, 3) := by decide +kernel
theorem dd_Mo_reach_44 : decode cc_Mo_reach 44 = .ok (.goto (-27), 3) := by decide +kernel
theorem dd_Mo_reach_47 : decode cc_Mo_reach 47 = .ok (.aload_n 0, 1) := by decide +kernel
theorem dd_Mo_reach_48 : decode cc_Mo_reach 48 = .ok (.getfield 103, 3) := by decide +kernel
theorem dd_Mo_reach_51 : decode cc_Mo_reach 51 = .ok (.bipush 16, 2) := by decide +kernel
theorem dd_Mo_reach_53 : decode cc_Mo_reach 53 = .ok (.if_icmp .ne 5, 3) := by decide +kernel
theorem dd_Mo_reach_56 : decode cc_Mo_reach 56 = .ok (.iconst (-1), 1) := by decide +kernel
theorem dd_Mo_reach_57 : decode cc_Mo_reach 57 = .ok (.ireturn, 1) := by decide +kernel
theorem dd_Mo_reach_58 : decode cc_Mo_reach 58 = .ok (.aload_n 0, 1) := by decide +kernel
theorem dd_Mo_reach_59 : decode cc_Mo_reach 59 = .ok (.getfield 69, 3) := by decide +kernel
theorem dd_Mo_reach_62 : decode cc_Mo_reach 62 = .ok (.aload_n 0, 1) := by decide +kernel
theorem dd_Mo_reach_63 : decode cc_Mo_reach 63 = .ok (.getfield 103, 3) := by decide +kernel
theorem dd_Mo_reach_66 : decode cc_Mo_reach 66 = .ok (.iload 4, 2) := by decide +kernel
theorem dd_Mo_reach_68 : decode cc_Mo_reach 68 = .ok (.iastore, 1) := by decide +kernel
theorem dd_Mo_reach_69 : decode cc_Mo_reach 69 = .ok (.aload_n 0, 1) := by decide +kernel
theorem dd_Mo_reach_70 : decode cc_Mo_reach 70 = .ok (.dup, 1) := by decide +kernel
theorem dd_Mo_reach_71 : decode cc_Mo_reach 71 = .ok (.getfield 103, 3) := by decide +kernel
theorem dd_Mo_reach_74 : decode cc_Mo_reach 74 = .ok (.iconst 1, 1) := by decide +kernel
theorem dd_Mo_reach_75 : decode cc_Mo_reach 75 = .ok (.iadd, 1) := by decide +kernel
theorem dd_Mo_reach_76 : decode cc_Mo_reach 76 = .ok (.putfield 103, 3) := by decide +kernel
theorem dd_Mo_reach_79 : decode cc_Mo_reach 79 = .ok (.aload_n 0, 1) := by decide +kernel
theorem dd_Mo_reach_80 : decode cc_Mo_reach 80 = .ok (.getfield 103, 3) := by decide +kernel
theorem dd_Mo_reach_83 : decode cc_Mo_reach 83 = .ok (.iconst 1, 1) := by decide +kernel
theorem dd_Mo_reach_84 : decode cc_Mo_reach 84 = .ok (.isub, 1) := by decide +kernel
theorem dd_Mo_reach_85 : decode cc_Mo_reach 85 = .ok (.ireturn, 1) := by decide +kernel
theorem dd_Mo_link_0 : decode cc_Mo_link 0 = .ok (.iload_n 2, 1) := by decide +kernel
theorem dd_Mo_link_1 : decode cc_Mo_link 1 = .ok (.ifCond .lt 22, 3) := by decide +kernel
theorem dd_Mo_link_4 : decode cc_Mo_link 4 = .ok (.aload_n 0, 1) := by decide +kernel
theorem dd_Mo_link_5 : decode cc_Mo_link 5 = .ok (.iconst 4, 1) := by decide +kernel
theorem dd_Mo_link_6 : decode cc_Mo_link 6 = .ok (.iload_n 1, 1) := by decide +kernel
theorem dd_Mo_link_7 : decode cc_Mo_link 7 = .ok (.iload_n 2, 1) := by decide +kernel
theorem dd_Mo_link_8 : decode cc_Mo_link 8 = .ok (.iload_n 3, 1) := by decide +kernel
theorem dd_Mo_link_9 : decode cc_Mo_link 9 = .ok (.iload 4, 2) := by decide +kernel
theorem dd_Mo_link_11 : decode cc_Mo_link 11 = .ok (.lload 5, 2) := by decide +kernel
theorem dd_Mo_link_13 : decode cc_Mo_link 13 = .ok (.invokevirtual 99, 3) := by decide +kernel
theorem dd_Mo_link_16 : decode cc_Mo_link 16 = .ok (.ifCond .eq 7, 3) := by decide +kernel
theorem dd_Mo_link_19 : decode cc_Mo_link 19 = .ok (.iconst 1, 1) := by decide +kernel
theorem dd_Mo_link_20 : decode cc_Mo_link 20 = .ok (.goto 4, 3) := by decide +kernel
theorem dd_Mo_link_23 : decode cc_Mo_link 23 = .ok (.iconst 0, 1) := by decide +kernel
theorem dd_Mo_link_24 : decode cc_Mo_link 24 = .ok (.ireturn, 1) := by decide +kernel
theorem dd_Mo_meet_0 : decode cc_Mo_meet 0 = .ok (.aload_n 0, 1) := by decide +kernel
theorem dd_Mo_meet_1 : decode cc_Mo_meet 1 = .ok (.getfield 69, 3) := by decide +kernel
theorem dd_Mo_meet_4 : decode cc_Mo_meet 4 = .ok (.iload_n 3, 1) := by decide +kernel
theorem dd_Mo_meet_5 : decode cc_Mo_meet 5 = .ok (.iaload, 1) := by decide +kernel
theorem dd_Mo_meet_6 : decode cc_Mo_meet 6 = .ok (.bipush 16, 2) := by decide +kernel
theorem dd_Mo_meet_8 : decode cc_Mo_meet 8 = .ok (.irem, 1) := by decide +kernel
theorem dd_Mo_meet_9 : decode cc_Mo_meet 9 = .ok (.istore 5, 2) := by decide +kernel
theorem dd_Mo_meet_11 : decode cc_Mo_meet 11 = .ok (.aload_n 0, 1) := by decide +kernel
theorem dd_Mo_meet_12 : decode cc_Mo_meet 12 = .ok (.getfield 69, 3) := by decide +kernel
theorem dd_Mo_meet_15 : decode cc_Mo_meet 15 = .ok (.iload_n 3, 1) := by decide +kernel
theorem dd_Mo_meet_16 : decode cc_Mo_meet 16 = .ok (.iaload, 1) := by decide +kernel
theorem dd_Mo_meet_17 : decode cc_Mo_meet 17 = .ok (.bipush 16, 2) := by decide +kernel
theorem dd_Mo_meet_19 : decode cc_Mo_meet 19 = .ok (.idiv, 1) := by decide +kernel
theorem dd_Mo_meet_20 : decode cc_Mo_meet 20 = .ok (.bipush 16, 2) := by decide +kernel
theorem dd_Mo_meet_22 : decode cc_Mo_meet 22 = .ok (.irem, 1) := by decide +kernel
theorem dd_Mo_meet_23 : decode cc_Mo_meet 23 = .ok (.istore 6, 2) := by decide +kernel
theorem dd_Mo_meet_25 : decode cc_Mo_meet 25 = .ok (.bipush 65, 2) := by decide +kernel
theorem dd_Mo_meet_27 : decode cc_Mo_meet 27 = .ok (.iload_n 1, 1) := by decide +kernel
theorem dd_Mo_meet_28 : decode cc_Mo_meet 28 = .ok (.imul, 1) := by decide +kernel
theorem dd_Mo_meet_29 : decode cc_Mo_meet 29 = .ok (.istore 7, 2) := by decide +kernel
theorem dd_Mo_meet_31 : decode cc_Mo_meet 31 = .ok (.iload 7, 2) := by decide +kernel
theorem dd_Mo_meet_33 : decode cc_Mo_meet 33 = .ok (.bipush 65, 2) := by decide +kernel
theorem dd_Mo_meet_35 : decode cc_Mo_meet 35 = .ok (.iload_n 1, 1) := by decide +kernel
theorem dd_Mo_meet_36 : decode cc_Mo_meet 36 = .ok (.imul, 1) := by decide +kernel
theorem dd_Mo_meet_37 : decode cc_Mo_meet 37 = .ok (.aload_n 0, 1) := by decide +kernel
theorem dd_Mo_meet_38 : decode cc_Mo_meet 38 = .ok (.getfield 23, 3) := by decide +kernel
theorem dd_Mo_meet_41 : decode cc_Mo_meet 41 = .ok (.iload_n 1, 1) := by decide +kernel
theorem dd_Mo_meet_42 : decode cc_Mo_meet 42 = .ok (.iaload, 1) := by decide +kernel
theorem dd_Mo_meet_43 : decode cc_Mo_meet 43 = .ok (.iadd, 1) := by decide +kernel
theorem dd_Mo_meet_44 : decode cc_Mo_meet 44 = .ok (.if_icmp .ge 168, 3) := by decide +kernel
theorem dd_Mo_meet_47 : decode cc_Mo_meet 47 = .ok (.bipush 65, 2) := by decide +kernel
theorem dd_Mo_meet_49 : decode cc_Mo_meet 49 = .ok (.iload_n 2, 1) := by decide +kernel
theorem dd_Mo_meet_50 : decode cc_Mo_meet 50 = .ok (.imul, 1) := by decide +kernel
theorem dd_Mo_meet_51 : decode cc_Mo_meet 51 = .ok (.istore 8, 2) := by decide +kernel
theorem dd_Mo_meet_53 : decode cc_Mo_meet 53 = .ok (.iload 8, 2) := by decide +kernel
theorem dd_Mo_meet_55 : decode cc_Mo_meet 55 = .ok (.bipush 65, 2) := by decide +kernel
theorem dd_Mo_meet_57 : decode cc_Mo_meet 57 = .ok (.iload_n 2, 1) := by decide +kernel
theorem dd_Mo_meet_58 : decode cc_Mo_meet 58 = .ok (.imul, 1) := by decide +kernel
theorem dd_Mo_meet_59 : decode cc_Mo_meet 59 = .ok (.aload_n 0, 1) := by decide +kernel
theorem dd_Mo_meet_60 : decode cc_Mo_meet 60 = .ok (.getfield 23, 3) := by decide +kernel
theorem dd_Mo_meet_63 : decode cc_Mo_meet 63 = .ok (.iload_n 2, 1) := by decide +kernel
theorem dd_Mo_meet_64 : decode cc_Mo_meet 64 = .ok (.iaload, 1) := by decide +kernel
theorem dd_Mo_meet_65 : decode cc_Mo_meet 65 = .ok (.iadd, 1) := by decide +kernel
theorem dd_Mo_meet_66 : decode cc_Mo_meet 66 = .ok (.if_icmp .ge 140, 3) := by decide +kernel
theorem dd_Mo_meet_69 : decode cc_Mo_meet 69 = .ok (.aload_n 0, 1) := by decide +kernel
theorem dd_Mo_meet_70 : decode cc_Mo_meet 70 = .ok (.getfield 26, 3) := by decide +kernel
theorem dd_Mo_meet_73 : decode cc_Mo_meet 73 = .ok (.iload 7, 2) := by decide +kernel
theorem dd_Mo_meet_75 : decode cc_Mo_meet 75 = .ok (.iaload, 1) := by decide +kernel
theorem dd_Mo_meet_76 : decode cc_Mo_meet 76 = .ok (.iload 5, 2) := by decide +kernel
theorem dd_Mo_meet_78 : decode cc_Mo_meet 78 = .ok (.if_icmp .ne 56, 3) := by decide +kernel
theorem dd_Mo_meet_81 : decode cc_Mo_meet 81 = .ok (.aload_n 0, 1) := by decide +kernel
theorem dd_Mo_meet_82 : decode cc_Mo_meet 82 = .ok (.getfield 26, 3) := by decide +kernel
theorem dd_Mo_meet_85 : decode cc_Mo_meet 85 = .ok (.iload 8, 2) := by decide +kernel
theorem dd_Mo_meet_87 : decode cc_Mo_meet 87 = .ok (.iaload, 1) := by decide +kernel
theorem dd_Mo_meet_88 : decode cc_Mo_meet 88 = .ok (.iload 6, 2) := by decide +kernel
theorem dd_Mo_meet_90 : decode cc_Mo_meet 90 = .ok (.if_icmp .ne 44, 3) := by decide +kernel
theorem dd_Mo_meet_93 : decode cc_Mo_meet 93 = .ok (.aload_n 0, 1) := by decide +kernel
theorem dd_Mo_meet_94 : decode cc_Mo_meet 94 = .ok (.getfield 35, 3) := by decide +kernel
theorem dd_Mo_meet_97 : decode cc_Mo_meet 97 = .ok (.iload 7, 2) := by decide +kernel
theorem dd_Mo_meet_99 : decode cc_Mo_meet 99 = .ok (.iaload, 1) := by decide +kernel
theorem dd_Mo_meet_100 : decode cc_Mo_meet 100 = .ok (.aload_n 0, 1) := by decide +kernel
theorem dd_Mo_meet_101 : decode cc_Mo_meet 101 = .ok (.getfield 32, 3) := by decide +kernel
theorem dd_Mo_meet_104 : decode cc_Mo_meet 104 = .ok (.iload 8, 2) := by decide +kernel
theorem dd_Mo_meet_106 : decode cc_Mo_meet 106 = .ok (.iaload, 1) := by decide +kernel
theorem dd_Mo_meet_107 : decode cc_Mo_meet 107 = .ok (.if_icmp .ne 27, 3) := by decide +kernel
theorem dd_Mo_meet_110 : decode cc_Mo_meet 110 = .ok (.aload_n 0, 1) := by decide +kernel
theorem dd_Mo_meet_111 : decode cc_Mo_meet 111 = .ok (.getfield 35, 3) := by decide +kernel
theorem dd_Mo_meet_114 : decode cc_Mo_meet 114 = .ok (.iload 7, 2) := by decide +kernel
theorem dd_Mo_meet_116 : decode cc_Mo_meet 116 = .ok (.iaload, 1) := by decide +kernel
theorem dd_Mo_meet_117 : decode cc_Mo_meet 117 = .ok (.ifCond .ne 7, 3) := by decide +kernel
theorem dd_Mo_meet_120 : decode cc_Mo_meet 120 = .ok (.iconst 1, 1) := by decide +kernel
theorem dd_Mo_meet_121 : decode cc_Mo_meet 121 = .ok (.goto 4, 3) := by decide +kernel
theorem dd_Mo_meet_124 : decode cc_Mo_meet 124 = .ok (.iconst 0, 1) := by decide +kernel
theorem dd_Mo_meet_125 : decode cc_Mo_meet 125 = .ok (.iload 4, 2) := by decide +kernel
theorem dd_Mo_meet_127 : decode cc_Mo_meet 127 = .ok (.if_icmp .ne 7, 3) := by decide +kernel
theorem dd_Mo_meet_130 : decode cc_Mo_meet 130 = .ok (.iconst 1, 1) := by decide +kernel
theorem dd_Mo_meet_131 : decode cc_Mo_meet 131 = .ok (.goto 4, 3) := by decide +kernel
theorem dd_Mo_meet_134 : decode cc_Mo_meet 134 = .ok (.iconst 0, 1) := by decide +kernel
theorem dd_Mo_meet_135 : decode cc_Mo_meet 135 = .ok (.istore 9, 2) := by decide +kernel
theorem dd_Mo_meet_137 : decode cc_Mo_meet 137 = .ok (.iload 9, 2) := by decide +kernel
theorem dd_Mo_meet_139 : decode cc_Mo_meet 139 = .ok (.ifCond .eq 61, 3) := by decide +kernel
theorem dd_Mo_meet_142 : decode cc_Mo_meet 142 = .ok (.aload_n 0, 1) := by decide +kernel
theorem dd_Mo_meet_143 : decode cc_Mo_meet 143 = .ok (.iload_n 3, 1) := by decide +kernel
theorem dd_Mo_meet_144 : decode cc_Mo_meet 144 = .ok (.aload_n 0, 1) := by decide +kernel
theorem dd_Mo_meet_145 : decode cc_Mo_meet 145 = .ok (.aload_n 0, 1) := by decide +kernel
theorem dd_Mo_meet_146 : decode cc_Mo_meet 146 = .ok (.getfield 29, 3) := by decide +kernel
theorem dd_Mo_meet_149 : decode cc_Mo_meet 149 = .ok (.iload 7, 2) := by decide +kernel
theorem dd_Mo_meet_151 : decode cc_Mo_meet 151 = .ok (.iaload, 1) := by decide +kernel
theorem dd_Mo_meet_152 : decode cc_Mo_meet 152 = .ok (.aload_n 0, 1) := by decide +kernel
theorem dd_Mo_meet_153 : decode cc_Mo_meet 153 = .ok (.getfield 29, 3) := by decide +kernel
theorem dd_Mo_meet_156 : decode cc_Mo_meet 156 = .ok (.iload 8, 2) := by decide +kernel
theorem dd_Mo_meet_158 : decode cc_Mo_meet 158 = .ok (.iaload, 1) := by decide +kernel
theorem dd_Mo_meet_159 : decode cc_Mo_meet 159 = .ok (.iconst 0, 1) := by decide +kernel
theorem dd_Mo_meet_160 : decode cc_Mo_meet 160 = .ok (.invokevirtual 107, 3) := by decide +kernel
theorem dd_Mo_meet_163 : decode cc_Mo_meet 163 = .ok (.aload_n 0, 1) := by decide +kernel
theorem dd_Mo_meet_164 : decode cc_Mo_meet 164 = .ok (.getfield 32, 3) := by decide +kernel
theorem dd_Mo_meet_167 : decode cc_Mo_meet 167 = .ok (.iload 7, 2) := by decide +kernel
theorem dd_Mo_meet_169 : decode cc_Mo_meet 169 = .ok (.iaload, 1) := by decide +kernel
theorem dd_Mo_meet_170 : decode cc_Mo_meet 170 = .ok (.aload_n 0, 1) := by decide +kernel
theorem dd_Mo_meet_171 : decode cc_Mo_meet 171 = .ok (.getfield 35, 3) := by decide +kernel
theorem dd_Mo_meet_174 : decode cc_Mo_meet 174 = .ok (.iload 8, 2) := by decide +kernel
theorem dd_Mo_meet_176 : decode cc_Mo_meet 176 = .ok (.iaload, 1) := by decide +kernel
theorem dd_Mo_meet_177 : decode cc_Mo_meet 177 = .ok (.aload_n 0, 1) := by decide +kernel
theorem dd_Mo_meet_178 : decode cc_Mo_meet 178 = .ok (.getfield 38, 3) := by decide +kernel
theorem dd_Mo_meet_181 : decode cc_Mo_meet 181 = .ok (.iload 7, 2) := by decide +kernel
theorem dd_Mo_meet_183 : decode cc_Mo_meet 183 = .ok (.laload, 1) := by decide +kernel
theorem dd_Mo_meet_184 : decode cc_Mo_meet 184 = .ok (.aload_n 0, 1) := by decide +kernel
theorem dd_Mo_meet_185 : decode cc_Mo_meet 185 = .ok (.getfield 38, 3) := by decide +kernel
theorem dd_Mo_meet_188 : decode cc_Mo_meet 188 = .ok (.iload 8, 2) := by decide +kernel
theorem dd_Mo_meet_190 : decode cc_Mo_meet 190 = .ok (.laload, 1) := by decide +kernel
theorem dd_Mo_meet_191 : decode cc_Mo_meet 191 = .ok (.ladd, 1) := by decide +kernel
theorem dd_Mo_meet_192 : decode cc_Mo_meet 192 = .ok (.invokevirtual 111, 3) := by decide +kernel
theorem dd_Mo_meet_195 : decode cc_Mo_meet 195 = .ok (.ifCond .ne 5, 3) := by decide +kernel
theorem dd_Mo_meet_198 : decode cc_Mo_meet 198 = .ok (.iconst 0, 1) := by decide +kernel
theorem dd_Mo_meet_199 : decode cc_Mo_meet 199 = .ok (.ireturn, 1) := by decide +kernel
theorem dd_Mo_meet_200 : decode cc_Mo_meet 200 = .ok (.iinc 8 1, 3) := by decide +kernel
theorem dd_Mo_meet_203 : decode cc_Mo_meet 203 = .ok (.goto (-150), 3) := by decide +kernel
theorem dd_Mo_meet_206 : decode cc_Mo_meet 206 = .ok (.iinc 7 1, 3) := by decide +kernel
theorem dd_Mo_meet_209 : decode cc_Mo_meet 209 = .ok (.goto (-178), 3) := by decide +kernel
theorem dd_Mo_meet_212 : decode cc_Mo_meet 212 = .ok (.iconst 1, 1) := by decide +kernel
theorem dd_Mo_meet_213 : decode cc_Mo_meet 213 = .ok (.ireturn, 1) := by decide +kernel
theorem dd_Mo_alone_0 : decode cc_Mo_alone 0 = .ok (.aload_n 0, 1) := by decide +kernel
theorem dd_Mo_alone_1 : decode cc_Mo_alone 1 = .ok (.getfield 69, 3) := by decide +kernel
theorem dd_Mo_alone_4 : decode cc_Mo_alone 4 = .ok (.iload_n 2, 1) := by decide +kernel
theorem dd_Mo_alone_5 : decode cc_Mo_alone 5 = .ok (.iaload, 1) := by decide +kernel
theorem dd_Mo_alone_6 : decode cc_Mo_alone 6 = .ok (.bipush 16, 2) := by decide +kernel
theorem dd_Mo_alone_8 : decode cc_Mo_alone 8 = .ok (.irem, 1) := by decide +kernel
theorem dd_Mo_alone_9 : decode cc_Mo_alone 9 = .ok (.istore 4, 2) := by decide +kernel
theorem dd_Mo_alone_11 : decode cc_Mo_alone 11 = .ok (.aload_n 0, 1) := by decide +kernel
theorem dd_Mo_alone_12 : decode cc_Mo_alone 12 = .ok (.getfield 69, 3) := by decide +kernel
theorem dd_Mo_alone_15 : decode cc_Mo_alone 15 = .ok (.iload_n 2, 1) := by decide +kernel
theorem dd_Mo_alone_16 : decode cc_Mo_alone 16 = .ok (.iaload, 1) := by decide +kernel
theorem dd_Mo_alone_17 : decode cc_Mo_alone 17 = .ok (.bipush 16, 2) := by decide +kernel
theorem dd_Mo_alone_19 : decode cc_Mo_alone 19 = .ok (.idiv, 1) := by decide +kernel
theorem dd_Mo_alone_20 : decode cc_Mo_alone 20 = .ok (.bipush 16, 2) := by decide +kernel
theorem dd_Mo_alone_22 : decode cc_Mo_alone 22 = .ok (.irem, 1) := by decide +kernel
theorem dd_Mo_alone_23 : decode cc_Mo_alone 23 = .ok (.istore 5, 2) := by decide +kernel
theorem dd_Mo_alone_25 : decode cc_Mo_alone 25 = .ok (.bipush 65, 2) := by decide +kernel
theorem dd_Mo_alone_27 : decode cc_Mo_alone 27 = .ok (.iload_n 1, 1) := by decide +kernel
theorem dd_Mo_alone_28 : decode cc_Mo_alone 28 = .ok (.imul, 1) := by decide +kernel
theorem dd_Mo_alone_29 : decode cc_Mo_alone 29 = .ok (.istore 6, 2) := by decide +kernel
theorem dd_Mo_alone_31 : decode cc_Mo_alone 31 = .ok (.iload 6, 2) := by decide +kernel
theorem dd_Mo_alone_33 : decode cc_Mo_alone 33 = .ok (.bipush 65, 2) := by decide +kernel
theorem dd_Mo_alone_35 : decode cc_Mo_alone 35 = .ok (.iload_n 1, 1) := by decide +kernel
theorem dd_Mo_alone_36 : decode cc_Mo_alone 36 = .ok (.imul, 1) := by decide +kernel
theorem dd_Mo_alone_37 : decode cc_Mo_alone 37 = .ok (.aload_n 0, 1) := by decide +kernel
theorem dd_Mo_alone_38 : decode cc_Mo_alone 38 = .ok (.getfield 23, 3) := by decide +kernel
theorem dd_Mo_alone_41 : decode cc_Mo_alone 41 = .ok (.iload_n 1, 1) := by decide +kernel
theorem dd_Mo_alone_42 : decode cc_Mo_alone 42 = .ok (.iaload, 1) := by decide +kernel
theorem dd_Mo_alone_43 : decode cc_Mo_alone 43 = .ok (.iadd, 1) := by decide +kernel
theorem dd_Mo_alone_44 : decode cc_Mo_alone 44 = .ok (.if_icmp .ge 163, 3) := by decide +kernel
theorem dd_Mo_alone_47 : decode cc_Mo_alone 47 = .ok (.iload_n 3, 1) := by decide +kernel
theorem dd_Mo_alone_48 : decode cc_Mo_alone 48 = .ok (.ifCond .eq 33, 3) := by decide +kernel
theorem dd_Mo_alone_51 : decode cc_Mo_alone 51 = .ok (.aload_n 0, 1) := by decide +kernel
theorem dd_Mo_alone_52 : decode cc_Mo_alone 52 = .ok (.getfield 26, 3) := by decide +kernel
theorem dd_Mo_alone_55 : decode cc_Mo_alone 55 = .ok (.iload 6, 2) := by decide +kernel
theorem dd_Mo_alone_57 : decode cc_Mo_alone 57 = .ok (.iaload, 1) := by decide +kernel
theorem dd_Mo_alone_58 : decode cc_Mo_alone 58 = .ok (.iload 4, 2) := by decide +kernel
theorem dd_Mo_alone_60 : decode cc_Mo_alone 60 = .ok (.if_icmp .ne 17, 3) := by decide +kernel
theorem dd_Mo_alone_63 : decode cc_Mo_alone 63 = .ok (.aload_n 0, 1) := by decide +kernel
theorem dd_Mo_alone_64 : decode cc_Mo_alone 64 = .ok (.getfield 35, 3) := by decide +kernel
theorem dd_Mo_alone_67 : decode cc_Mo_alone 67 = .ok (.iload 6, 2) := by decide +kernel
theorem dd_Mo_alone_69 : decode cc_Mo_alone 69 = .ok (.iaload, 1) := by decide +kernel
theorem dd_Mo_alone_70 : decode cc_Mo_alone 70 = .ok (.ifCond .ne 7, 3) := by decide +kernel
theorem dd_Mo_alone_73 : decode cc_Mo_alone 73 = .ok (.iconst 1, 1) := by decide +kernel
theorem dd_Mo_alone_74 : decode cc_Mo_alone 74 = .ok (.goto 34, 3) := by decide +kernel
theorem dd_Mo_alone_77 : decode cc_Mo_alone 77 = .ok (.iconst 0, 1) := by decide +kernel
theorem dd_Mo_alone_78 : decode cc_Mo_alone 78 = .ok (.goto 30, 3) := by decide +kernel
theorem dd_Mo_alone_81 : decode cc_Mo_alone 81 = .ok (.aload_n 0, 1) := by decide +kernel
theorem dd_Mo_alone_82 : decode cc_Mo_alone 82 = .ok (.getfield 26, 3) := by decide +kernel
theorem dd_Mo_alone_85 : decode cc_Mo_alone 85 = .ok (.iload 6, 2) := by decide +kernel
theorem dd_Mo_alone_87 : decode cc_Mo_alone 87 = .ok (.iaload, 1) := by decide +kernel
theorem dd_Mo_alone_88 : decode cc_Mo_alone 88 = .ok (.iload 5, 2) := by decide +kernel
theorem dd_Mo_alone_90 : decode cc_Mo_alone 90 = .ok (.if_icmp .ne 17, 3) := by decide +kernel
theorem dd_Mo_alone_93 : decode cc_Mo_alone 93 = .ok (.aload_n 0, 1) := by decide +kernel
theorem dd_Mo_alone_94 : decode cc_Mo_alone 94 = .ok (.getfield 32, 3) := by decide +kernel
theorem dd_Mo_alone_97 : decode cc_Mo_alone 97 = .ok (.iload 6, 2) := by decide +kernel
theorem dd_Mo_alone_99 : decode cc_Mo_alone 99 = .ok (.iaload, 1) := by decide +kernel
theorem dd_Mo_alone_100 : decode cc_Mo_alone 100 = .ok (.ifCond .ne 7, 3) := by decide +kernel
theorem dd_Mo_alone_103 : decode cc_Mo_alone 103 = .ok (.iconst 1, 1) := by decide +kernel
theorem dd_Mo_alone_104 : decode cc_Mo_alone 104 = .ok (.goto 4, 3) := by decide +kernel
theorem dd_Mo_alone_107 : decode cc_Mo_alone 107 = .ok (.iconst 0, 1) := by decide +kernel
theorem dd_Mo_alone_108 : decode cc_Mo_alone 108 = .ok (.istore 7, 2) := by decide +kernel
theorem dd_Mo_alone_110 : decode cc_Mo_alone 110 = .ok (.iload 7, 2) := by decide +kernel
theorem dd_Mo_alone_112 : decode cc_Mo_alone 112 = .ok (.ifCond .eq 89, 3) := by decide +kernel
theorem dd_Mo_alone_115 : decode cc_Mo_alone 115 = .ok (.iload_n 3, 1) := by decide +kernel
theorem dd_Mo_alone_116 : decode cc_Mo_alone 116 = .ok (.ifCond .eq 20, 3) := by decide +kernel
theorem dd_Mo_alone_119 : decode cc_Mo_alone 119 = .ok (.aload_n 0, 1) := by decide +kernel
theorem dd_Mo_alone_120 : decode cc_Mo_alone 120 = .ok (.aload_n 0, 1) := by decide +kernel
theorem dd_Mo_alone_121 : decode cc_Mo_alone 121 = .ok (.getfield 29, 3) := by decide +kernel
theorem dd_Mo_alone_124 : decode cc_Mo_alone 124 = .ok (.iload 6, 2) := by decide +kernel
theorem dd_Mo_alone_126 : decode cc_Mo_alone 126 = .ok (.iaload, 1) := by decide +kernel
theorem dd_Mo_alone_127 : decode cc_Mo_alone 127 = .ok (.iload 5, 2) := by decide +kernel
theorem dd_Mo_alone_129 : decode cc_Mo_alone 129 = .ok (.iconst 1, 1) := by decide +kernel
theorem dd_Mo_alone_130 : decode cc_Mo_alone 130 = .ok (.invokevirtual 107, 3) := by decide +kernel
theorem dd_Mo_alone_133 : decode cc_Mo_alone 133 = .ok (.goto 17, 3) := by decide +kernel
theorem dd_Mo_alone_136 : decode cc_Mo_alone 136 = .ok (.aload_n 0, 1) := by decide +kernel
theorem dd_Mo_alone_137 : decode cc_Mo_alone 137 = .ok (.iload 4, 2) := by decide +kernel
theorem dd_Mo_alone_139 : decode cc_Mo_alone 139 = .ok (.aload_n 0, 1) := by decide +kernel
theorem dd_Mo_alone_140 : decode cc_Mo_alone 140 = .ok (.getfield 29, 3) := by decide +kernel
theorem dd_Mo_alone_143 : decode cc_Mo_alone 143 = .ok (.iload 6, 2) := by decide +kernel
theorem dd_Mo_alone_145 : decode cc_Mo_alone 145 = .ok (.iaload, 1) := by decide +kernel
theorem dd_Mo_alone_146 : decode cc_Mo_alone 146 = .ok (.iconst 2, 1) := by decide +kernel
theorem dd_Mo_alone_147 : decode cc_Mo_alone 147 = .ok (.invokevirtual 107, 3) := by decide +kernel
theorem dd_Mo_alone_150 : decode cc_Mo_alone 150 = .ok (.istore 8, 2) := by decide +kernel
theorem dd_Mo_alone_152 : decode cc_Mo_alone 152 = .ok (.aload_n 0, 1) := by decide +kernel
theorem dd_Mo_alone_153 : decode cc_Mo_alone 153 = .ok (.iload_n 2, 1) := by decide +kernel
theorem dd_Mo_alone_154 : decode cc_Mo_alone 154 = .ok (.iload 8, 2) := by decide +kernel
theorem dd_Mo_alone_156 : decode cc_Mo_alone 156 = .ok (.iload_n 3, 1) := by decide +kernel
theorem dd_Mo_alone_157 : decode cc_Mo_alone 157 = .ok (.ifCond .eq 13, 3) := by decide +kernel
theorem dd_Mo_alone_160 : decode cc_Mo_alone 160 = .ok (.aload_n 0, 1) := by decide +kernel
theorem dd_Mo_alone_161 : decode cc_Mo_alone 161 = .ok (.getfield 32, 3) := by decide +kernel
theorem dd_Mo_alone_164 : decode cc_Mo_alone 164 = .ok (.iload 6, 2) := by decide +kernel
theorem dd_Mo_alone_166 : decode cc_Mo_alone 166 = .ok (.iaload, 1) := by decide +kernel
theorem dd_Mo_alone_167 : decode cc_Mo_alone 167 = .ok (.goto 4, 3) := by decide +kernel
theorem dd_Mo_alone_170 : decode cc_Mo_alone 170 = .ok (.iconst 0, 1) := by decide +kernel
theorem dd_Mo_alone_171 : decode cc_Mo_alone 171 = .ok (.iload_n 3, 1) := by decide +kernel
theorem dd_Mo_alone_172 : decode cc_Mo_alone 172 = .ok (.ifCond .eq 7, 3) := by decide +kernel
theorem dd_Mo_alone_175 : decode cc_Mo_alone 175 = .ok (.iconst 0, 1) := by decide +kernel
theorem dd_Mo_alone_176 : decode cc_Mo_alone 176 = .ok (.goto 10, 3) := by decide +kernel
theorem dd_Mo_alone_179 : decode cc_Mo_alone 179 = .ok (.aload_n 0, 1) := by decide +kernel
theorem dd_Mo_alone_180 : decode cc_Mo_alone 180 = .ok (.getfield 35, 3) := by decide +kernel
theorem dd_Mo_alone_183 : decode cc_Mo_alone 183 = .ok (.iload 6, 2) := by decide +kernel
theorem dd_Mo_alone_185 : decode cc_Mo_alone 185 = .ok (.iaload, 1) := by decide +kernel
theorem dd_Mo_alone_186 : decode cc_Mo_alone 186 = .ok (.aload_n 0, 1) := by decide +kernel
theorem dd_Mo_alone_187 : decode cc_Mo_alone 187 = .ok (.getfield 38, 3) := by decide +kernel
theorem dd_Mo_alone_190 : decode cc_Mo_alone 190 = .ok (.iload 6, 2) := by decide +kernel
theorem dd_Mo_alone_192 : decode cc_Mo_alone 192 = .ok (.laload, 1) := by decide +kernel
theorem dd_Mo_alone_193 : decode cc_Mo_alone 193 = .ok (.invokevirtual 111, 3) := by decide +kernel
theorem dd_Mo_alone_196 : decode cc_Mo_alone 196 = .ok (.ifCond .ne 5, 3) := by decide +kernel
theorem dd_Mo_alone_199 : decode cc_Mo_alone 199 = .ok (.iconst 0, 1) := by decide +kernel
theorem dd_Mo_alone_200 : decode cc_Mo_alone 200 = .ok (.ireturn, 1) := by decide +kernel
theorem dd_Mo_alone_201 : decode cc_Mo_alone 201 = .ok (.iinc 6 1, 3) := by decide +kernel
theorem dd_Mo_alone_204 : decode cc_Mo_alone 204 = .ok (.goto (-173), 3) := by decide +kernel
theorem dd_Mo_alone_207 : decode cc_Mo_alone 207 = .ok (.iconst 1, 1) := by decide +kernel
theorem dd_Mo_alone_208 : decode cc_Mo_alone 208 = .ok (.ireturn, 1) := by decide +kernel
theorem dd_Mo_explore_0 : decode cc_Mo_explore 0 = .ok (.iconst 0, 1) := by decide +kernel
theorem dd_Mo_explore_1 : decode cc_Mo_explore 1 = .ok (.istore_n 3, 1) := by decide +kernel
theorem dd_Mo_explore_2 : decode cc_Mo_explore 2 = .ok (.iload_n 3, 1) := by decide +kernel
theorem dd_Mo_explore_3 : decode cc_Mo_explore 3 = .ok (.aload_n 0, 1) := by decide +kernel
theorem dd_Mo_explore_4 : decode cc_Mo_explore 4 = .ok (.getfield 103, 3) := by decide +kernel
theorem dd_Mo_explore_7 : decode cc_Mo_explore 7 = .ok (.if_icmp .ge 94, 3) := by decide +kernel
theorem dd_Mo_explore_10 : decode cc_Mo_explore 10 = .ok (.aload_n 0, 1) := by decide +kernel
theorem dd_Mo_explore_11 : decode cc_Mo_explore 11 = .ok (.getfield 69, 3) := by decide +kernel
theorem dd_Mo_explore_14 : decode cc_Mo_explore 14 = .ok (.iload_n 3, 1) := by decide +kernel
theorem dd_Mo_explore_15 : decode cc_Mo_explore 15 = .ok (.iaload, 1) := by decide +kernel
theorem dd_Mo_explore_16 : decode cc_Mo_explore 16 = .ok (.sipush 256, 3) := by decide +kernel
theorem dd_Mo_explore_19 : decode cc_Mo_explore 19 = .ok (.idiv, 1) := by decide +kernel
theorem dd_Mo_explore_20 : decode cc_Mo_explore 20 = .ok (.istore 4, 2) := by decide +kernel
theorem dd_Mo_explore_22 : decode cc_Mo_explore 22 = .ok (.aload_n 0, 1) := by decide +kernel
theorem dd_Mo_explore_23 : decode cc_Mo_explore 23 = .ok (.iload_n 1, 1) := by decide +kernel
theorem dd_Mo_explore_24 : decode cc_Mo_explore 24 = .ok (.iload_n 2, 1) := by decide +kernel
theorem dd_Mo_explore_25 : decode cc_Mo_explore 25 = .ok (.iload_n 3, 1) := by decide +kernel
theorem dd_Mo_explore_26 : decode cc_Mo_explore 26 = .ok (.iconst 0, 1) := by decide +kernel
theorem dd_Mo_explore_27 : decode cc_Mo_explore 27 = .ok (.invokevirtual 115, 3) := by decide +kernel
theorem dd_Mo_explore_30 : decode cc_Mo_explore 30 = .ok (.ifCond .eq 55, 3) := by decide +kernel
theorem dd_Mo_explore_33 : decode cc_Mo_explore 33 = .ok (.iload 4, 2) := by decide +kernel
theorem dd_Mo_explore_35 : decode cc_Mo_explore 35 = .ok (.ifCond .ne 14, 3) := by decide +kernel
theorem dd_Mo_explore_38 : decode cc_Mo_explore 38 = .ok (.aload_n 0, 1) := by decide +kernel
theorem dd_Mo_explore_39 : decode cc_Mo_explore 39 = .ok (.iload_n 1, 1) := by decide +kernel
theorem dd_Mo_explore_40 : decode cc_Mo_explore 40 = .ok (.iload_n 2, 1) := by decide +kernel
theorem dd_Mo_explore_41 : decode cc_Mo_explore 41 = .ok (.iload_n 3, 1) := by decide +kernel
theorem dd_Mo_explore_42 : decode cc_Mo_explore 42 = .ok (.iconst 1, 1) := by decide +kernel
theorem dd_Mo_explore_43 : decode cc_Mo_explore 43 = .ok (.invokevirtual 115, 3) := by decide +kernel
theorem dd_Mo_explore_46 : decode cc_Mo_explore 46 = .ok (.ifCond .eq 39, 3) := by decide +kernel
theorem dd_Mo_explore_49 : decode cc_Mo_explore 49 = .ok (.iload 4, 2) := by decide +kernel
theorem dd_Mo_explore_51 : decode cc_Mo_explore 51 = .ok (.iconst 2, 1) := by decide +kernel
theorem dd_Mo_explore_52 : decode cc_Mo_explore 52 = .ok (.if_icmp .eq 13, 3) := by decide +kernel
theorem dd_Mo_explore_55 : decode cc_Mo_explore 55 = .ok (.aload_n 0, 1) := by decide +kernel
theorem dd_Mo_explore_56 : decode cc_Mo_explore 56 = .ok (.iload_n 1, 1) := by decide +kernel
theorem dd_Mo_explore_57 : decode cc_Mo_explore 57 = .ok (.iload_n 3, 1) := by decide +kernel
theorem dd_Mo_explore_58 : decode cc_Mo_explore 58 = .ok (.iconst 1, 1) := by decide +kernel
theorem dd_Mo_explore_59 : decode cc_Mo_explore 59 = .ok (.invokevirtual 119, 3) := by decide +kernel
theorem dd_Mo_explore_62 : decode cc_Mo_explore 62 = .ok (.ifCond .eq 23, 3) := by decide +kernel
theorem dd_Mo_explore_65 : decode cc_Mo_explore 65 = .ok (.iload 4, 2) := by decide +kernel
theorem dd_Mo_explore_67 : decode cc_Mo_explore 67 = .ok (.iconst 1, 1) := by decide +kernel
theorem dd_Mo_explore_68 : decode cc_Mo_explore 68 = .ok (.if_icmp .eq 13, 3) := by decide +kernel
theorem dd_Mo_explore_71 : decode cc_Mo_explore 71 = .ok (.aload_n 0, 1) := by decide +kernel
theorem dd_Mo_explore_72 : decode cc_Mo_explore 72 = .ok (.iload_n 2, 1) := by decide +kernel
theorem dd_Mo_explore_73 : decode cc_Mo_explore 73 = .ok (.iload_n 3, 1) := by decide +kernel
theorem dd_Mo_explore_74 : decode cc_Mo_explore 74 = .ok (.iconst 0, 1) := by decide +kernel
theorem dd_Mo_explore_75 : decode cc_Mo_explore 75 = .ok (.invokevirtual 119, 3) := by decide +kernel
theorem dd_Mo_explore_78 : decode cc_Mo_explore 78 = .ok (.ifCond .eq 7, 3) := by decide +kernel
theorem dd_Mo_explore_81 : decode cc_Mo_explore 81 = .ok (.iconst 1, 1) := by decide +kernel
theorem dd_Mo_explore_82 : decode cc_Mo_explore 82 = .ok (.goto 4, 3) := by decide +kernel
theorem dd_Mo_explore_85 : decode cc_Mo_explore 85 = .ok (.iconst 0, 1) := by decide +kernel
theorem dd_Mo_explore_86 : decode cc_Mo_explore 86 = .ok (.istore 5, 2) := by decide +kernel
theorem dd_Mo_explore_88 : decode cc_Mo_explore 88 = .ok (.iload 5, 2) := by decide +kernel
theorem dd_Mo_explore_90 : decode cc_Mo_explore 90 = .ok (.ifCond .ne 5, 3) := by decide +kernel
theorem dd_Mo_explore_93 : decode cc_Mo_explore 93 = .ok (.iconst 0, 1) := by decide +kernel
theorem dd_Mo_explore_94 : decode cc_Mo_explore 94 = .ok (.ireturn, 1) := by decide +kernel
theorem dd_Mo_explore_95 : decode cc_Mo_explore 95 = .ok (.iinc 3 1, 3) := by decide +kernel
theorem dd_Mo_explore_98 : decode cc_Mo_explore 98 = .ok (.goto (-96), 3) := by decide +kernel
theorem dd_Mo_explore_101 : decode cc_Mo_explore 101 = .ok (.iconst 1, 1) := by decide +kernel
theorem dd_Mo_explore_102 : decode cc_Mo_explore 102 = .ok (.ireturn, 1) := by decide +kernel
/-! THE REFERENCE'S COMPOSING -/
def mc_cd (t : co_t) : Nat := t.1 + 16 * t.2.1 + 256 * t.2.2
theorem mc_cd_lt {t : co_t} (h : co_ok t) : mc_cd t < 768 := by
  obtain ⟨h1, h2, h3⟩ := h
  unfold mc_cd
  omega
theorem mc_cd_inj {t u : co_t} (ht : co_ok t) (hu : co_ok u) (h : mc_cd t = mc_cd u) : t = u := by
  obtain ⟨p, q, f⟩ := t
  obtain ⟨p2, q2, f2⟩ := u
  simp only [mc_cd, co_ok] at *
  obtain ⟨h1, h2, h3⟩ := ht
  obtain ⟨g1, g2, g3⟩ := hu
  rw [show p = p2 by omega, show q = q2 by omega, show f = f2 by omega]
theorem mc_p {t : co_t} (h : co_ok t) : nI (mc_cd t) - nI (mc_cd t) / nI 16 * nI 16 = nI t.1 := by
  have := mc_cd_lt h
  rw [pk_rem (by omega) (by decide) (by decide)]
  obtain ⟨h1, h2, h3⟩ := h
  exact congrArg nI (by unfold mc_cd; omega)
theorem mc_q1 {t : co_t} (h : co_ok t) : nI (mc_cd t) / nI 16 = nI (mc_cd t / 16) := by
  have := mc_cd_lt h
  exact pk_div (by omega) (by decide) (by decide)
theorem mc_q2 {t : co_t} (h : co_ok t) : nI (mc_cd t / 16) - nI (mc_cd t / 16) / nI 16 * nI 16 = nI t.2.1 := by
  have := mc_cd_lt h
  rw [pk_rem (by omega) (by decide) (by decide)]
  obtain ⟨h1, h2, h3⟩ := h
  exact congrArg nI (by unfold mc_cd; omega)
theorem mc_f {t : co_t} (h : co_ok t) : nI (mc_cd t) / nI 256 = nI t.2.2 := by
  have := mc_cd_lt h
  rw [pk_div (by omega) (by decide) (by decide)]
  obtain ⟨h1, h2, h3⟩ := h
  exact congrArg nI (by unfold mc_cd; omega)
/-- the found triples -/
def mt (F : mo_F) (S : Nat → Int32) (T : List co_t) : Prop := S 27 = nI T.length ∧ (∀ k t, T[k]? = some t → F 63 k = nI (mc_cd t)) ∧ (∀ t ∈ T, co_ok t) ∧ T.length ≤ 16
def mc_iv (F : mo_F) (L : mo_L) (S : Nat → Int32) (st : Option (Nat × Nat)) (c : co_S) : Prop := mo_is F L 4 (0, st, (fun _ => none), c.2) ∧ mt F S c.1 ∧ am_so c.2 ∧ ∀ x ∈ c.2, x.1 < 16384 ∧ x.2 < 4000000000
def mc_r (v : Option Value) (F : mo_F) (L : mo_L) (S : Nat → Int32) (st : Option (Nat × Nat)) (o : Option co_S) : Prop := match o with
  | none => v = some (.int (nI 0))
  | some c => v = some (.int (nI 1)) ∧ mc_iv F L S st c
theorem mo_is_k {F F2 : mo_F} {L L2 : mo_L} {s : Nat} {a : am_T} (hF : ∀ k, k < 57 → F2 k = F k) (hL : ∀ k, k < 57 → L2 k = L k) (h : mo_is F L s a) : mo_is F2 L2 s a := by
  unfold mo_is mo_a at h ⊢
  rw [hF 44 (by decide), hF 45 (by decide), hF 48 (by decide), hF 49 (by decide), hF 50 (by decide), hF 51 (by decide), hF 52 (by decide), hL 46 (by decide), hL 47 (by decide), hL 53 (by decide)]
  exact h
theorem mo_w_k {F F2 : mo_F} {L L2 : mo_L} (hF : ∀ k, k < 57 → F2 k = F k) (hL : ∀ k, k < 57 → L2 k = L k) : mo_w F L F2 L2 := by
  unfold mo_w
  rw [hF 44 (by decide), hF 45 (by decide), hF 48 (by decide), hF 49 (by decide), hF 50 (by decide), hF 51 (by decide), hF 52 (by decide), hF 54 (by decide), hF 56 (by decide), hL 46 (by decide), hL 47 (by decide), hL 53 (by decide), hL 55 (by decide)]
  exact ⟨fun _ _ => ⟨rfl, rfl, rfl, rfl⟩, fun _ _ => rfl, fun _ _ => ⟨rfl, rfl, rfl, rfl, rfl⟩, rfl, rfl, rfl⟩
set_option maxRecDepth 100000 in
set_option maxHeartbeats 4000000 in
theorem ct_Mo_reach (l : Launch) (D : va_G) (dA : Nat → ClassId) (ad : Nat → Nat) (h : Nat → va_E) (F : mo_F) (L : mo_L) (S : Nat → Int32) {T : List co_t} {t : co_t} (hT : mt F S T) (ht : co_ok t) : gx_Ct l D dA yy_Mo_reach cc_Mo_reach 6 (some .int) 0 0 0 [.ref (ad 43), .int (nI t.1), .int (nI t.2.1), .int (nI t.2.2)] (gx_w ad (mo_h dA ad h F L S)) (fun v w => (∃ y, co_fd t T = some y ∧ v = some (.int (nI y.1)) ∧ ∃ F2 S2, w = (gx_w ad (mo_h dA ad h F2 L S2)) ∧ mt F2 S2 y.2 ∧ y.1 < 16 ∧ (∀ k, k ≠ 63 → F2 k = F k) ∧ ∀ k, k ≠ 27 → S2 k = S k) ∨ (co_fd t T = none ∧ v = some (.int (-1)) ∧ w = (gx_w ad (mo_h dA ad h F L S)))) := by
  refine gx_of (by decide) (Nat.le_of_ble_eq_true rfl) (fun K C _ _ => ?_)
  have hl16 := hT.2.2.2
  have htl := mc_cd_lt ht
  have loop : ∀ m j, j + m = T.length → (∀ k u, k < j → T[k]? = some u → u ≠ t) → gx_G K D 6 0 0 17 [(5, .int (nI j)), (4, .int (nI (mc_cd t))), (0, .ref (ad 43)), (1, .int (nI t.1)), (2, .int (nI t.2.1)), (3, .int (nI t.2.2))] [] (gx_w ad (mo_h dA ad h F L S)) (gx_Z K D dA 0 0 (fun v w => (∃ y, co_fd t T = some y ∧ v = some (.int (nI y.1)) ∧ ∃ F2 S2, w = (gx_w ad (mo_h dA ad h F2 L S2)) ∧ mt F2 S2 y.2 ∧ y.1 < 16 ∧ (∀ k, k ≠ 63 → F2 k = F k) ∧ ∀ k, k ≠ 27 → S2 k = S k) ∨ (co_fd t T = none ∧ v = some (.int (-1)) ∧ w = (gx_w ad (mo_h dA ad h F L S))))) := by
    intro m
    induction m with
    | zero =>
      intro j hj hno
      refine gx_iload C 0 dd_Mo_reach_17 (kk := ?_)
      refine gx_aload_n C 2 dd_Mo_reach_19 (kk := ?_)
      refine mo_get C fd_Mo_103 dd_Mo_reach_20 (kk := ?_)
      refine gx_topi _ hT.1 ?_
      refine gx_icmp_ge C 47 dd_Mo_reach_23 (fun h23 => ?_) (fun h23 => absurd (nI_le (a := T.length) (b := j) (by omega) (by omega)) h23)
      refine gx_aload_n C 2 dd_Mo_reach_47 (kk := ?_)
      refine mo_get C fd_Mo_103 dd_Mo_reach_48 (kk := ?_)
      refine gx_topi _ hT.1 ?_
      refine gx_bipush (v := nI 16) C dd_Mo_reach_51 (kk := ?_)
      refine gx_icmp_ne C 58 dd_Mo_reach_53 (fun h53 => ?_) (fun h53 => ?_)
      · refine gx_aload_n C 2 dd_Mo_reach_58 (kk := ?_)
        refine mo_get C fd_Mo_69 dd_Mo_reach_59 (kk := ?_)
        refine gx_aload_n C 2 dd_Mo_reach_62 (kk := ?_)
        refine mo_get C fd_Mo_103 dd_Mo_reach_63 (kk := ?_)
        refine gx_topi _ hT.1 ?_
        refine gx_iload C 1 dd_Mo_reach_66 (kk := ?_)
        refine mo_s63 C dd_Mo_reach_68 (by omega) (kk := fun F68 hF68 => ?_)
        refine gx_aload_n C 2 dd_Mo_reach_69 (kk := ?_)
        refine gx_dup C dd_Mo_reach_70 (kk := ?_)
        refine mo_get C fd_Mo_103 dd_Mo_reach_71 (kk := ?_)
        refine gx_topi _ hT.1 ?_
        refine gx_iconst (v := nI 1) C dd_Mo_reach_74 (kk := ?_)
        refine gx_iadd C dd_Mo_reach_75 (kk := ?_)
        refine gx_topi _ (nI_add _ _) ?_
        refine mo_put_27 C fw_Mo_103 dd_Mo_reach_76 (kk := fun S76 hS76 => ?_)
        refine gx_aload_n C 2 dd_Mo_reach_79 (kk := ?_)
        refine mo_get C fd_Mo_103 dd_Mo_reach_80 (kk := ?_)
        refine gx_topi (nI (T.length + 1)) (by rw [hS76, gm_us]) ?_
        refine gx_iconst (v := nI 1) C dd_Mo_reach_83 (kk := ?_)
        refine gx_isub C dd_Mo_reach_84 (kk := ?_)
        refine gx_topi (nI T.length) (pk_sub (a := T.length + 1) (b := 1) (by omega)) ?_
        refine gx_iret C dd_Mo_reach_85 ?_
        rw [nI_eq (by omega) (by decide)] at h53
        refine Or.inl ⟨(T.length, T ++ [t]), by rw [co_fd_no (fun k u hk => hno k u (by omega)), if_pos (by omega)], rfl, F68, S76, rfl, ⟨?_, ?_, ?_, ?_⟩, by show T.length < 16; omega, fun k hk => by rw [hF68, gm_un hk], fun k hk => by rw [hS76, gm_un hk]⟩
        · rw [hS76, gm_us]
          show nI (T.length + 1) = nI (T ++ [t]).length
          rw [List.length_append]
          rfl
        · intro k u hu
          have hu : (T ++ [t])[k]? = some u := hu
          rw [hF68, gm_us]
          rw [List.getElem?_append] at hu
          by_cases hk : k < T.length
          · rw [if_pos hk] at hu
            rw [pk_un (by omega)]
            exact hT.2.1 k u hu
          · rw [if_neg hk] at hu
            have hk2 : k - T.length < 1 := (List.getElem?_eq_some_iff.mp hu).1
            rw [show k - T.length = 0 by omega] at hu
            cases hu
            rw [show k = T.length by omega, pk_us]
        · intro u hu
          have hu : u ∈ T ++ [t] := hu
          rcases List.mem_append.mp hu with hu | hu
          · exact hT.2.2.1 u hu
          · rw [List.mem_singleton.mp hu]
            exact ht
        · show (T ++ [t]).length ≤ 16
          rw [List.length_append]
          show T.length + 1 ≤ 16
          omega
      · refine gx_iconst (v := -1) C dd_Mo_reach_56 (kk := ?_)
        refine gx_iret C dd_Mo_reach_57 ?_
        rw [nI_eq (by omega) (by decide)] at h53
        exact Or.inr ⟨by rw [co_fd_no (fun k u hk => hno k u (by omega)), if_neg (by omega)], rfl, rfl⟩
    | succ m ih =>
      intro j hj hno
      obtain ⟨u, hu⟩ : ∃ u, T[j]? = some u := ⟨_, List.getElem?_eq_getElem (by omega)⟩
      have huo := hT.2.2.1 u (List.mem_of_getElem? hu)
      have hul := mc_cd_lt huo
      refine gx_iload C 0 dd_Mo_reach_17 (kk := ?_)
      refine gx_aload_n C 2 dd_Mo_reach_19 (kk := ?_)
      refine mo_get C fd_Mo_103 dd_Mo_reach_20 (kk := ?_)
      refine gx_topi _ hT.1 ?_
      refine gx_icmp_ge C 47 dd_Mo_reach_23 (fun h23 => absurd h23 (nI_ge (by omega) (by omega))) (fun h23 => ?_)
      refine gx_aload_n C 2 dd_Mo_reach_26 (kk := ?_)
      refine mo_get C fd_Mo_69 dd_Mo_reach_27 (kk := ?_)
      refine gx_iload C 0 dd_Mo_reach_30 (kk := ?_)
      refine mo_l63 C dd_Mo_reach_32 (by omega) (kk := ?_)
      refine gx_topi _ (hT.2.1 j u hu) ?_
      refine gx_iload C 1 dd_Mo_reach_33 (kk := ?_)
      refine gx_icmp_ne C 41 dd_Mo_reach_35 (fun h35 => ?_) (fun h35 => ?_)
      · refine gx_iinc C 0 (nI (j + 1)) _ dd_Mo_reach_41 (nI_1 j) (kk := ?_)
        refine gx_goto C 17 dd_Mo_reach_44 (kk := ?_)
        exact ih (j + 1) (by omega) (fun k v hk hv e => by
          by_cases hkj : k = j
          · subst hkj
            rw [hu] at hv
            cases hv
            exact h35 (by rw [e])
          · exact hno k v (by omega) hv e)
      · refine gx_iload C 0 dd_Mo_reach_38 (kk := ?_)
        refine gx_iret C dd_Mo_reach_40 ?_
        rw [nI_eq (by omega) (by omega)] at h35
        obtain rfl := mc_cd_inj huo ht h35
        exact Or.inl ⟨(j, T), co_fd_at hu hno, rfl, F, S, rfl, hT, by show j < 16; omega, fun _ _ => rfl, fun _ _ => rfl⟩
  refine gx_iload_n C 1 dd_Mo_reach_0 (kk := ?_)
  refine gx_bipush (v := nI 16) C dd_Mo_reach_1 (kk := ?_)
  refine gx_iload_n C 2 dd_Mo_reach_3 (kk := ?_)
  refine gx_imul C dd_Mo_reach_4 (kk := ?_)
  refine gx_topi _ (pk_mul _ _) ?_
  refine gx_iadd C dd_Mo_reach_5 (kk := ?_)
  refine gx_topi _ (nI_add _ _) ?_
  refine gx_sipush (v := nI 256) C dd_Mo_reach_6 (kk := ?_)
  refine gx_iload_n C 3 dd_Mo_reach_9 (kk := ?_)
  refine gx_imul C dd_Mo_reach_10 (kk := ?_)
  refine gx_topi _ (pk_mul _ _) ?_
  refine gx_iadd C dd_Mo_reach_11 (kk := ?_)
  refine gx_topi _ (nI_add _ _) ?_
  refine gx_istore C _ dd_Mo_reach_12 (kk := ?_)
  refine gx_iconst (v := nI 0) C dd_Mo_reach_14 (kk := ?_)
  refine gx_istore C _ dd_Mo_reach_15 (kk := ?_)
  exact loop T.length 0 (by omega) (fun k u hk => absurd hk (Nat.not_lt_zero _))
set_option maxRecDepth 100000 in
set_option maxHeartbeats 4000000 in
theorem ct_Mo_linkN (l : Launch) (D : va_G) (dA : Nat → ClassId) (ad : Nat → Nat) (h : Nat → va_E) (F : mo_F) (L : mo_L) (S : Nat → Int32) (k i o : Int32) (x : Int64) : gx_Ct l D dA yy_Mo_link cc_Mo_link 7 (some .boolean) 2 0 0 [.ref (ad 43), .int k, .int (-1), .int i, .int o, .long x] (gx_w ad (mo_h dA ad h F L S)) (fun v w => v = some (.int (nI 0)) ∧ w = (gx_w ad (mo_h dA ad h F L S))) := by
  refine gx_of (by decide) (Nat.le_of_ble_eq_true rfl) (fun K C _ _ => ?_)
  refine gx_iload_n C 2 dd_Mo_link_0 (kk := ?_)
  refine gx_if_lt C 23 dd_Mo_link_1 (fun h1 => ?_) (fun h1 => absurd (by decide) h1)
  refine gx_iconst (v := nI 0) C dd_Mo_link_23 (kk := ?_)
  refine gx_zret C dd_Mo_link_24 (by first | rfl | exact fb_nar) ?_
  exact ⟨rfl, rfl⟩
set_option maxRecDepth 100000 in
set_option maxHeartbeats 4000000 in
theorem ct_Mo_linkP (l : Launch) (D : va_G) (dA : Nat → ClassId) (ad : Nat → Nat) (h : Nat → va_E) (F : mo_F) (L : mo_L) (S : Nat → Int32) {f t i o x0 B : Nat} {a : am_T} (hM : mo_is F L 4 a) (hs2 : am_so (am_ar a)) (hkb : ∀ x ∈ am_ar a, x.1 < 16384) (hwb : ∀ x ∈ am_ar a, x.2 < B) (hB : B ≤ 2 ^ 62) (hf : f < 16) (ht : t < 16) (hi : i < 8) (ho : o < 8) (hx0 : x0 < B) : gx_Ct l D dA yy_Mo_link cc_Mo_link 7 (some .boolean) 2 0 0 [.ref (ad 43), .int (nI f), .int (nI t), .int (nI i), .int (nI o), .long (lN x0)] (gx_w ad (mo_h dA ad h F L S)) (fun v w => (am_rm (pr_k f i o t) (am_ar a) = true ∧ v = some (.int (nI 1)) ∧ ∃ F2 L2, w = (gx_w ad (mo_h dA ad h F2 L2 S)) ∧ mo_is F2 L2 4 (am_n a, am_st a, am_en a, am_in (pr_k f i o t) x0 (am_ar a)) ∧ mo_fr 4 F L F2 L2) ∨ (am_rm (pr_k f i o t) (am_ar a) = false ∧ v = some (.int (nI 0)) ∧ w = (gx_w ad (mo_h dA ad h F L S)))) := by
  refine gx_of (by decide) (Nat.le_of_ble_eq_true rfl) (fun K C _ _ => ?_)
  refine gx_iload_n C 2 dd_Mo_link_0 (kk := ?_)
  refine gx_if_lt C 23 dd_Mo_link_1 (fun h1 => absurd h1 (nI_pos (by omega))) (fun h1 => ?_)
  refine gx_aload_n C 0 dd_Mo_link_4 (kk := ?_)
  refine gx_iconst (v := nI 4) C dd_Mo_link_5 (kk := ?_)
  refine gx_iload_n C 1 dd_Mo_link_6 (kk := ?_)
  refine gx_iload_n C 2 dd_Mo_link_7 (kk := ?_)
  refine gx_iload_n C 3 dd_Mo_link_8 (kk := ?_)
  refine gx_iload C 4 dd_Mo_link_9 (kk := ?_)
  refine gx_lload C 5 dd_Mo_link_11 (kk := ?_)
  refine gx_callV C (ct_Mo_put (gx_l K) D dA ad h F L S (s := 4) (f := f) (t := t) (i := i) (o := o) (x0 := x0) (B := B) (a := a) (by decide) hM hs2 hkb hwb hB hf ht hi ho hx0) me_Mo_put ml_Mo_99 mn_Mo_put _ (gx_w_at (by decide) mo_h_43) rfl dd_Mo_link_13 (kk := fun v w hq => ?_)
  rcases hq with ⟨hr3, rfl, F2, L2, rfl, hM2, hf2⟩ | ⟨hr3, rfl, rfl⟩
  · refine gx_if_eq C 23 dd_Mo_link_16 (fun h16 => absurd h16 (by decide)) (fun h16 => ?_)
    refine gx_iconst (v := nI 1) C dd_Mo_link_19 (kk := ?_)
    refine gx_goto C 24 dd_Mo_link_20 (kk := ?_)
    refine gx_zret C dd_Mo_link_24 (by first | rfl | exact fb_nar) ?_
    exact Or.inl ⟨hr3, rfl, F2, L2, rfl, hM2, hf2⟩
  · refine gx_if_eq C 23 dd_Mo_link_16 (fun h16 => ?_) (fun h16 => absurd rfl h16)
    refine gx_iconst (v := nI 0) C dd_Mo_link_23 (kk := ?_)
    refine gx_zret C dd_Mo_link_24 (by first | rfl | exact fb_nar) ?_
    exact Or.inr ⟨hr3, rfl, rfl⟩
def mm_i (p q : Nat) (e : Bool) (x y : Nat × Nat) : List co_I := if x.1 / 1024 = p ∧ y.1 / 1024 = q ∧ x.1 / 16 % 8 = y.1 / 128 % 8 ∧ decide (x.1 / 16 % 8 = 0) = e then [co_i2 x y] else []
def mm_f (p q : Nat) (x : Nat × Nat) : List co_I := if x.1 / 1024 = p ∧ x.1 / 16 % 8 = 0 then [(8 * (x.1 / 128 % 8) + 0, x.2, x.1 % 16, q, 1)] else []
def mm_s (p q : Nat) (y : Nat × Nat) : List co_I := if y.1 / 1024 = q ∧ y.1 / 128 % 8 = 0 then [co_s1 p y] else []
theorem fm_d {α β : Type} {l : List α} {j : Nat} {x : α} {g : α → List β} (h : l[j]? = some x) : (l.drop j).flatMap g = g x ++ (l.drop (j + 1)).flatMap g := by
  obtain ⟨hj, rfl⟩ := List.getElem?_eq_some_iff.mp h
  rw [List.drop_eq_getElem_cons hj, List.flatMap_cons]
theorem fm_n {α β : Type} {l : List α} {j : Nat} {g : α → List β} (h : l.length ≤ j) : (l.drop j).flatMap g = [] := by
  rw [List.drop_eq_nil_of_le h]
  rfl
theorem mm_bx (lb : List (Nat × Nat)) (p q : Nat) (e : Bool) (x : Nat × Nat) : lb.flatMap (mm_i p q e x) = if x.1 / 1024 = p then co_bx lb q e x else [] := by
  unfold co_bx
  induction lb with
  | nil => by_cases h1 : x.1 / 1024 = p <;> by_cases h2 : decide (x.1 / 16 % 8 = 0) = e <;> simp [h1, h2]
  | cons y u ih2 =>
    rw [List.flatMap_cons, ih2]
    unfold mm_i
    by_cases h1 : x.1 / 1024 = p
    · by_cases h2 : decide (x.1 / 16 % 8 = 0) = e
      · rw [if_pos h1, if_pos h2, if_pos h1, if_pos h2]
        by_cases h3 : y.1 / 128 = q * 8 + x.1 / 16 % 8
        · rw [if_pos ⟨h1, by omega, by omega, h2⟩, List.filter_cons_of_pos (by simpa using h3), List.map_cons]
          rfl
        · rw [if_neg (fun c => h3 (by have := c.2.1; have := c.2.2.1; omega)), List.filter_cons_of_neg (by simpa using h3)]
          rfl
      · rw [if_neg (fun c => h2 c.2.2.2), if_pos h1, if_neg h2, if_pos h1, if_neg h2]
        rfl
    · rw [if_neg (fun c => h1 c.1), if_neg h1, if_neg h1]
      rfl
theorem mm_both (la lb : List (Nat × Nat)) (p q : Nat) (e : Bool) : co_both la lb p q e = la.flatMap (fun x => lb.flatMap (mm_i p q e x)) := by
  unfold co_both
  induction la with
  | nil => rfl
  | cons x t ih =>
    rw [List.flatMap_cons, ← ih, mm_bx]
    by_cases h1 : x.1 / 1024 = p
    · rw [if_pos h1, List.filter_cons_of_pos (by simpa using h1), List.flatMap_cons]
    · rw [if_neg h1, List.filter_cons_of_neg (by simpa using h1)]
      rfl
theorem mm_first (la : List (Nat × Nat)) (p q : Nat) : co_first la p q = la.flatMap (mm_f p q) := by
  unfold co_first
  induction la with
  | nil => rfl
  | cons x t ih =>
    rw [List.flatMap_cons, ← ih]
    unfold mm_f
    by_cases h1 : x.1 / 1024 = p
    · rw [List.filter_cons_of_pos (by simp [h1]), List.flatMap_cons]
      unfold co_f1
      by_cases h2 : x.1 / 16 % 8 = 0
      · rw [if_pos h2, if_pos ⟨h1, h2⟩]
      · rw [if_neg h2, if_neg (fun c => h2 c.2)]
    · rw [List.filter_cons_of_neg (by simp [h1]), if_neg (fun c => h1 c.1)]
      rfl
theorem mm_second (lb : List (Nat × Nat)) (p q : Nat) : co_second lb p q = lb.flatMap (mm_s p q) := by
  unfold co_second
  induction lb with
  | nil => rfl
  | cons y t ih =>
    rw [List.flatMap_cons, ← ih]
    unfold mm_s
    by_cases h1 : y.1 / 128 = q * 8 + 0
    · rw [List.filter_cons_of_pos (by simpa using h1), List.map_cons, if_pos ⟨by omega, by omega⟩]
      rfl
    · rw [List.filter_cons_of_neg (by simpa using h1), if_neg (fun c => h1 (by have := c.1; have := c.2; omega))]
      rfl
theorem mc_cons {s : Nat} {it : co_I} {R : List co_I} {c : co_S} {y : Nat × List co_t} (h1 : co_fd it.2.2 c.1 = some y) (h2 : am_rm (s * 1024 + it.1 * 16 + y.1) c.2 = true) : co_run s (it :: R) c = co_run s R (y.2, am_in (s * 1024 + it.1 * 16 + y.1) it.2.1 c.2) := by
  rw [co_run_c]
  unfold co_br
  rw [h1]
  show (match (if am_rm (s * 1024 + it.1 * 16 + y.1) c.2 = true then some (y.2, am_in (s * 1024 + it.1 * 16 + y.1) it.2.1 c.2) else none) with | none => none | some c2 => co_run s R c2) = _
  rw [if_pos h2]
theorem mc_nofd {s : Nat} {it : co_I} {R : List co_I} {c : co_S} (h1 : co_fd it.2.2 c.1 = none) : co_run s (it :: R) c = none := by
  rw [co_run_c]
  unfold co_br
  rw [h1]
theorem mc_norm {s : Nat} {it : co_I} {R : List co_I} {c : co_S} {y : Nat × List co_t} (h1 : co_fd it.2.2 c.1 = some y) (h2 : am_rm (s * 1024 + it.1 * 16 + y.1) c.2 = false) : co_run s (it :: R) c = none := by
  rw [co_run_c]
  unfold co_br
  rw [h1]
  show (match (if am_rm (s * 1024 + it.1 * 16 + y.1) c.2 = true then some (y.2, am_in (s * 1024 + it.1 * 16 + y.1) it.2.1 c.2) else none) with | none => none | some c2 => co_run s R c2) = _
  rw [if_neg (by rw [h2]; decide)]
/-- the machine behind an item -/
theorem mc_step {F F2 F3 : mo_F} {L L3 : mo_L} {S S2 : Nat → Int32} {st : Option (Nat × Nat)} {c : co_S} {y : Nat × List co_t} {key x0 : Nat} (hiv : mc_iv F L S st c) (hm : mt F2 S2 y.2) (hM : mo_is F3 L3 4 (0, st, (fun _ => none), am_in key x0 c.2)) (hfr : mo_fr 4 F2 L F3 L3) (hk : key < 16384) (hx : x0 < 4000000000) : mc_iv F3 L3 S2 st (y.2, am_in key x0 c.2) := by
  refine ⟨hM, ?_, am_in_so hiv.2.2.1, fun z hz => co_inb hiv.2.2.2 hk hx hz⟩
  unfold mt at hm ⊢
  rw [(hfr.2.2.2 63 (by decide)).1]
  exact hm
theorem mo_w_r {F F1 F2 : mo_F} {L L1 : mo_L} (h : mo_w F L F1 L1) (hF : ∀ k, k ≠ 63 → F2 k = F1 k) : mo_w F L F2 L1 := mo_w_tr h (mo_w_k (fun k hk => hF k (by omega)) (fun _ _ => rfl))
theorem mo_s_r {S S1 S2 : Nat → Int32} (h : ∀ k, k ≠ 27 → S1 k = S k) (h2 : ∀ k, k ≠ 27 → S2 k = S1 k) : ∀ k, k ≠ 27 → S2 k = S k := fun k hk => (h2 k hk).trans (h k hk)
set_option maxRecDepth 100000 in
set_option maxHeartbeats 4000000 in
theorem ct_Mo_meetT (l : Launch) (D : va_G) (dA : Nat → ClassId) (ad : Nat → Nat) (h : Nat → va_E) (F : mo_F) (L : mo_L) (S : Nat → Int32) {ia ib : Nat} {A B : am_T} (hia : ia < 4) (hib : ib < 4) (hA : mo_is F L ia A) (hB : mo_is F L ib B) (hAb : ∀ x ∈ am_ar A, x.1 < 16384 ∧ x.2 < 1000000001) (hBb : ∀ x ∈ am_ar B, x.1 < 16384 ∧ x.2 < 1000000001) {st : Option (Nat × Nat)} {c : co_S} {k : Nat} {t : co_t} (hiv : mc_iv F L S st c) (hkt : c.1[k]? = some t) : gx_Ct l D dA yy_Mo_meet cc_Mo_meet 10 (some .boolean) 3 0 0 [.ref (ad 43), .int (nI ia), .int (nI ib), .int (nI k), .int (nI 1)] (gx_w ad (mo_h dA ad h F L S)) (fun v w => ∃ F2 L2 S2, w = (gx_w ad (mo_h dA ad h F2 L2 S2)) ∧ mo_w F L F2 L2 ∧ (∀ k, k ≠ 27 → S2 k = S k) ∧ mc_r v F2 L2 S2 st (co_run k (co_both (am_ar A) (am_ar B) t.1 t.2.1 true) c)) := by
  refine gx_of (by decide) (Nat.le_of_ble_eq_true rfl) (fun K C _ _ => ?_)
  have hto := hiv.2.1.2.2.1 t (List.mem_of_getElem? hkt)
  have hk16 : k < 16 := by
    have := (List.getElem?_eq_some_iff.mp hkt).1
    have := hiv.2.1.2.2.2
    omega
  obtain ⟨ht1, ht2, ht3⟩ := hto
  have hto : co_ok t := ⟨ht1, ht2, ht3⟩
  have hla := hA.2.2.2.2.2
  have hlb := hB.2.2.2.2.2
  have outer : ∀ m i c1 F1 L1 S1, i + m = (am_ar A).length → co_run k (co_both (am_ar A) (am_ar B) t.1 t.2.1 true) c = co_run k (((am_ar A).drop i).flatMap (fun x => (am_ar B).flatMap (mm_i t.1 t.2.1 true x))) c1 → mc_iv F1 L1 S1 st c1 → mo_w F L F1 L1 → (∀ k, k ≠ 27 → S1 k = S k) → gx_G K D 10 0 0 31 [(7, .int (nI (65 * ia + i))), (5, .int (nI t.1)), (6, .int (nI t.2.1)), (0, .ref (ad 43)), (1, .int (nI ia)), (2, .int (nI ib)), (3, .int (nI k)), (4, .int (nI 1))] [] (gx_w ad (mo_h dA ad h F1 L1 S1)) (gx_Z K D dA 0 0 (fun v w => ∃ F2 L2 S2, w = (gx_w ad (mo_h dA ad h F2 L2 S2)) ∧ mo_w F L F2 L2 ∧ (∀ k, k ≠ 27 → S2 k = S k) ∧ mc_r v F2 L2 S2 st (co_run k (co_both (am_ar A) (am_ar B) t.1 t.2.1 true) c))) := by
    intro m
    induction m with
    | zero =>
      intro i c1 F1 L1 S1 hi hE hiv1 hw1 hS1
      refine gx_iload C 0 dd_Mo_meet_31 (kk := ?_)
      refine gx_bipush (v := nI 65) C dd_Mo_meet_33 (kk := ?_)
      refine gx_iload_n C 4 dd_Mo_meet_35 (kk := ?_)
      refine gx_imul C dd_Mo_meet_36 (kk := ?_)
      refine gx_topi _ (pk_mul _ _) ?_
      refine gx_aload_n C 3 dd_Mo_meet_37 (kk := ?_)
      refine mo_get C fd_Mo_23 dd_Mo_meet_38 (kk := ?_)
      refine gx_iload_n C 4 dd_Mo_meet_41 (kk := ?_)
      refine mo_l48 C dd_Mo_meet_42 (by omega) (kk := ?_)
      refine gx_topi _ (mo_w_is hw1 hia hA).2.2.2.1 ?_
      refine gx_iadd C dd_Mo_meet_43 (kk := ?_)
      refine gx_topi _ (nI_add _ _) ?_
      refine gx_icmp_ge C 212 dd_Mo_meet_44 (fun h44 => ?_) (fun h44 => absurd (nI_le (a := 65 * ia + (am_ar A).length) (b := 65 * ia + i) (by omega) (by omega)) h44)
      refine gx_iconst (v := nI 1) C dd_Mo_meet_212 (kk := ?_)
      refine gx_zret C dd_Mo_meet_213 (by first | rfl | exact fb_nar) ?_
      rw [hE, fm_n (by omega)]
      exact ⟨_, _, _, rfl, hw1, hS1, rfl, hiv1⟩
    | succ m ih =>
      intro i c1 F1 L1 S1 hi hE hiv1 hw1 hS1
      obtain ⟨x, hx⟩ : ∃ x, (am_ar A)[i]? = some x := ⟨_, List.getElem?_eq_getElem (by omega)⟩
      have hxbb := hAb x (List.mem_of_getElem? hx)
      refine gx_iload C 0 dd_Mo_meet_31 (kk := ?_)
      refine gx_bipush (v := nI 65) C dd_Mo_meet_33 (kk := ?_)
      refine gx_iload_n C 4 dd_Mo_meet_35 (kk := ?_)
      refine gx_imul C dd_Mo_meet_36 (kk := ?_)
      refine gx_topi _ (pk_mul _ _) ?_
      refine gx_aload_n C 3 dd_Mo_meet_37 (kk := ?_)
      refine mo_get C fd_Mo_23 dd_Mo_meet_38 (kk := ?_)
      refine gx_iload_n C 4 dd_Mo_meet_41 (kk := ?_)
      refine mo_l48 C dd_Mo_meet_42 (by omega) (kk := ?_)
      refine gx_topi _ (mo_w_is hw1 hia hA).2.2.2.1 ?_
      refine gx_iadd C dd_Mo_meet_43 (kk := ?_)
      refine gx_topi _ (nI_add _ _) ?_
      refine gx_icmp_ge C 212 dd_Mo_meet_44 (fun h44 => absurd h44 (nI_ge (by omega) (by omega))) (fun h44 => ?_)
      refine gx_bipush (v := nI 65) C dd_Mo_meet_47 (kk := ?_)
      refine gx_iload_n C 5 dd_Mo_meet_49 (kk := ?_)
      refine gx_imul C dd_Mo_meet_50 (kk := ?_)
      refine gx_topi _ (pk_mul _ _) ?_
      refine gx_istore C _ dd_Mo_meet_51 (kk := ?_)
      have inner : ∀ m j c1 F1 L1 S1, j + m = (am_ar B).length → co_run k (co_both (am_ar A) (am_ar B) t.1 t.2.1 true) c = co_run k (((am_ar B).drop j).flatMap (mm_i t.1 t.2.1 true x) ++ ((am_ar A).drop (i + 1)).flatMap (fun x => (am_ar B).flatMap (mm_i t.1 t.2.1 true x))) c1 → mc_iv F1 L1 S1 st c1 → mo_w F L F1 L1 → (∀ k, k ≠ 27 → S1 k = S k) → gx_G K D 10 0 0 53 [(8, .int (nI (65 * ib + j))), (7, .int (nI (65 * ia + i))), (5, .int (nI t.1)), (6, .int (nI t.2.1)), (0, .ref (ad 43)), (1, .int (nI ia)), (2, .int (nI ib)), (3, .int (nI k)), (4, .int (nI 1))] [] (gx_w ad (mo_h dA ad h F1 L1 S1)) (gx_Z K D dA 0 0 (fun v w => ∃ F2 L2 S2, w = (gx_w ad (mo_h dA ad h F2 L2 S2)) ∧ mo_w F L F2 L2 ∧ (∀ k, k ≠ 27 → S2 k = S k) ∧ mc_r v F2 L2 S2 st (co_run k (co_both (am_ar A) (am_ar B) t.1 t.2.1 true) c))) := by
        intro m
        induction m with
        | zero =>
          intro j c1 F1 L1 S1 hj hE hiv1 hw1 hS1
          refine gx_iload C 0 dd_Mo_meet_53 (kk := ?_)
          refine gx_bipush (v := nI 65) C dd_Mo_meet_55 (kk := ?_)
          refine gx_iload_n C 6 dd_Mo_meet_57 (kk := ?_)
          refine gx_imul C dd_Mo_meet_58 (kk := ?_)
          refine gx_topi _ (pk_mul _ _) ?_
          refine gx_aload_n C 4 dd_Mo_meet_59 (kk := ?_)
          refine mo_get C fd_Mo_23 dd_Mo_meet_60 (kk := ?_)
          refine gx_iload_n C 6 dd_Mo_meet_63 (kk := ?_)
          refine mo_l48 C dd_Mo_meet_64 (by omega) (kk := ?_)
          refine gx_topi _ (mo_w_is hw1 hib hB).2.2.2.1 ?_
          refine gx_iadd C dd_Mo_meet_65 (kk := ?_)
          refine gx_topi _ (nI_add _ _) ?_
          refine gx_icmp_ge C 206 dd_Mo_meet_66 (fun h66 => ?_) (fun h66 => absurd (nI_le (a := 65 * ib + (am_ar B).length) (b := 65 * ib + j) (by omega) (by omega)) h66)
          refine gx_iinc C 1 (nI (65 * ia + (i + 1))) _ dd_Mo_meet_206 (nI_1 _) (kk := ?_)
          refine gx_goto C 31 dd_Mo_meet_209 (kk := ?_)
          refine gx_loc [0, 2, 3, 4, 5, 6, 7, 8] ?_
          exact ih (i + 1) c1 F1 L1 S1 (by omega) (by rw [hE, fm_n (by omega), List.nil_append]) hiv1 hw1 hS1
        | succ m ihj =>
          intro j c1 F1 L1 S1 hj hE hiv1 hw1 hS1
          obtain ⟨y0, hy0⟩ : ∃ y, (am_ar B)[j]? = some y := ⟨_, List.getElem?_eq_getElem (by omega)⟩
          have hyb := (mo_w_is hw1 hib hB).2.2.2.2.1 j y0 hy0
          have hybb := hBb y0 (List.mem_of_getElem? hy0)
          have hxa := (mo_w_is hw1 hia hA).2.2.2.2.1 i x hx
          refine gx_iload C 0 dd_Mo_meet_53 (kk := ?_)
          refine gx_bipush (v := nI 65) C dd_Mo_meet_55 (kk := ?_)
          refine gx_iload_n C 6 dd_Mo_meet_57 (kk := ?_)
          refine gx_imul C dd_Mo_meet_58 (kk := ?_)
          refine gx_topi _ (pk_mul _ _) ?_
          refine gx_aload_n C 4 dd_Mo_meet_59 (kk := ?_)
          refine mo_get C fd_Mo_23 dd_Mo_meet_60 (kk := ?_)
          refine gx_iload_n C 6 dd_Mo_meet_63 (kk := ?_)
          refine mo_l48 C dd_Mo_meet_64 (by omega) (kk := ?_)
          refine gx_topi _ (mo_w_is hw1 hib hB).2.2.2.1 ?_
          refine gx_iadd C dd_Mo_meet_65 (kk := ?_)
          refine gx_topi _ (nI_add _ _) ?_
          refine gx_icmp_ge C 206 dd_Mo_meet_66 (fun h66 => absurd h66 (nI_ge (by omega) (by omega))) (fun h66 => ?_)
          rcases (show ¬ x.1 / 1024 = t.1 ∨ (x.1 / 1024 = t.1 ∧ ¬ y0.1 / 1024 = t.2.1) ∨ (x.1 / 1024 = t.1 ∧ y0.1 / 1024 = t.2.1 ∧ ¬ x.1 / 16 % 8 = y0.1 / 128 % 8) ∨ (x.1 / 1024 = t.1 ∧ y0.1 / 1024 = t.2.1 ∧ x.1 / 16 % 8 = y0.1 / 128 % 8 ∧ ¬ x.1 / 16 % 8 = 0) ∨ (x.1 / 1024 = t.1 ∧ y0.1 / 1024 = t.2.1 ∧ x.1 / 16 % 8 = y0.1 / 128 % 8 ∧ x.1 / 16 % 8 = 0) by omega) with c1h | ⟨c1h, c2h⟩ | ⟨c1h, c2h, c3h⟩ | ⟨c1h, c2h, c3h, c4h⟩ | ⟨c1h, c2h, c3h, c4h⟩
          · have hg : mm_i t.1 t.2.1 true x y0 = [] := if_neg (fun cc => c1h cc.1)
            refine gx_aload_n C 4 dd_Mo_meet_69 (kk := ?_)
            refine mo_get C fd_Mo_26 dd_Mo_meet_70 (kk := ?_)
            refine gx_iload C 1 dd_Mo_meet_73 (kk := ?_)
            refine mo_l49 C dd_Mo_meet_75 (by omega) (kk := ?_)
            refine gx_topi _ hxa.1 ?_
            refine gx_iload C 2 dd_Mo_meet_76 (kk := ?_)
            refine gx_icmp_ne C 134 dd_Mo_meet_78 (fun h78 => ?_) (fun h78 => absurd ((nI_eq (by omega) (by omega)).mp h78) c1h)
            refine gx_iconst (v := nI 0) C dd_Mo_meet_134 (kk := ?_)
            refine gx_istore C _ dd_Mo_meet_135 (kk := ?_)
            refine gx_iload C 0 dd_Mo_meet_137 (kk := ?_)
            refine gx_if_eq C 200 dd_Mo_meet_139 (fun h139 => ?_) (fun h139 => absurd rfl h139)
            refine gx_iinc C 1 (nI (65 * ib + (j + 1))) _ dd_Mo_meet_200 (nI_1 _) (kk := ?_)
            refine gx_goto C 53 dd_Mo_meet_203 (kk := ?_)
            refine gx_loc [0, 2, 3, 4, 5, 6, 7, 8, 9] ?_
            exact ihj (j + 1) c1 F1 L1 S1 (by omega) (by rw [hE, fm_d hy0, hg, List.nil_append]) hiv1 hw1 hS1
          · have hg : mm_i t.1 t.2.1 true x y0 = [] := if_neg (fun cc => c2h cc.2.1)
            refine gx_aload_n C 4 dd_Mo_meet_69 (kk := ?_)
            refine mo_get C fd_Mo_26 dd_Mo_meet_70 (kk := ?_)
            refine gx_iload C 1 dd_Mo_meet_73 (kk := ?_)
            refine mo_l49 C dd_Mo_meet_75 (by omega) (kk := ?_)
            refine gx_topi _ hxa.1 ?_
            refine gx_iload C 2 dd_Mo_meet_76 (kk := ?_)
            refine gx_icmp_ne C 134 dd_Mo_meet_78 (fun h78 => absurd (congrArg nI c1h) h78) (fun h78 => ?_)
            refine gx_aload_n C 4 dd_Mo_meet_81 (kk := ?_)
            refine mo_get C fd_Mo_26 dd_Mo_meet_82 (kk := ?_)
            refine gx_iload C 0 dd_Mo_meet_85 (kk := ?_)
            refine mo_l49 C dd_Mo_meet_87 (by omega) (kk := ?_)
            refine gx_topi _ hyb.1 ?_
            refine gx_iload C 3 dd_Mo_meet_88 (kk := ?_)
            refine gx_icmp_ne C 134 dd_Mo_meet_90 (fun h90 => ?_) (fun h90 => absurd ((nI_eq (by omega) (by omega)).mp h90) c2h)
            refine gx_iconst (v := nI 0) C dd_Mo_meet_134 (kk := ?_)
            refine gx_istore C _ dd_Mo_meet_135 (kk := ?_)
            refine gx_iload C 0 dd_Mo_meet_137 (kk := ?_)
            refine gx_if_eq C 200 dd_Mo_meet_139 (fun h139 => ?_) (fun h139 => absurd rfl h139)
            refine gx_iinc C 1 (nI (65 * ib + (j + 1))) _ dd_Mo_meet_200 (nI_1 _) (kk := ?_)
            refine gx_goto C 53 dd_Mo_meet_203 (kk := ?_)
            refine gx_loc [0, 2, 3, 4, 5, 6, 7, 8, 9] ?_
            exact ihj (j + 1) c1 F1 L1 S1 (by omega) (by rw [hE, fm_d hy0, hg, List.nil_append]) hiv1 hw1 hS1
          · have hg : mm_i t.1 t.2.1 true x y0 = [] := if_neg (fun cc => c3h cc.2.2.1)
            refine gx_aload_n C 4 dd_Mo_meet_69 (kk := ?_)
            refine mo_get C fd_Mo_26 dd_Mo_meet_70 (kk := ?_)
            refine gx_iload C 1 dd_Mo_meet_73 (kk := ?_)
            refine mo_l49 C dd_Mo_meet_75 (by omega) (kk := ?_)
            refine gx_topi _ hxa.1 ?_
            refine gx_iload C 2 dd_Mo_meet_76 (kk := ?_)
            refine gx_icmp_ne C 134 dd_Mo_meet_78 (fun h78 => absurd (congrArg nI c1h) h78) (fun h78 => ?_)
            refine gx_aload_n C 4 dd_Mo_meet_81 (kk := ?_)
            refine mo_get C fd_Mo_26 dd_Mo_meet_82 (kk := ?_)
            refine gx_iload C 0 dd_Mo_meet_85 (kk := ?_)
            refine mo_l49 C dd_Mo_meet_87 (by omega) (kk := ?_)
            refine gx_topi _ hyb.1 ?_
            refine gx_iload C 3 dd_Mo_meet_88 (kk := ?_)
            refine gx_icmp_ne C 134 dd_Mo_meet_90 (fun h90 => absurd (congrArg nI c2h) h90) (fun h90 => ?_)
            refine gx_aload_n C 4 dd_Mo_meet_93 (kk := ?_)
            refine mo_get C fd_Mo_35 dd_Mo_meet_94 (kk := ?_)
            refine gx_iload C 1 dd_Mo_meet_97 (kk := ?_)
            refine mo_l52 C dd_Mo_meet_99 (by omega) (kk := ?_)
            refine gx_topi _ hxa.2.2.2.1 ?_
            refine gx_aload_n C 4 dd_Mo_meet_100 (kk := ?_)
            refine mo_get C fd_Mo_32 dd_Mo_meet_101 (kk := ?_)
            refine gx_iload C 0 dd_Mo_meet_104 (kk := ?_)
            refine mo_l51 C dd_Mo_meet_106 (by omega) (kk := ?_)
            refine gx_topi _ hyb.2.2.1 ?_
            refine gx_icmp_ne C 134 dd_Mo_meet_107 (fun h107 => ?_) (fun h107 => absurd ((nI_eq (by omega) (by omega)).mp h107) c3h)
            refine gx_iconst (v := nI 0) C dd_Mo_meet_134 (kk := ?_)
            refine gx_istore C _ dd_Mo_meet_135 (kk := ?_)
            refine gx_iload C 0 dd_Mo_meet_137 (kk := ?_)
            refine gx_if_eq C 200 dd_Mo_meet_139 (fun h139 => ?_) (fun h139 => absurd rfl h139)
            refine gx_iinc C 1 (nI (65 * ib + (j + 1))) _ dd_Mo_meet_200 (nI_1 _) (kk := ?_)
            refine gx_goto C 53 dd_Mo_meet_203 (kk := ?_)
            refine gx_loc [0, 2, 3, 4, 5, 6, 7, 8, 9] ?_
            exact ihj (j + 1) c1 F1 L1 S1 (by omega) (by rw [hE, fm_d hy0, hg, List.nil_append]) hiv1 hw1 hS1
          · have hg : mm_i t.1 t.2.1 true x y0 = [] := if_neg (fun cc => c4h (of_decide_eq_true cc.2.2.2))
            refine gx_aload_n C 4 dd_Mo_meet_69 (kk := ?_)
            refine mo_get C fd_Mo_26 dd_Mo_meet_70 (kk := ?_)
            refine gx_iload C 1 dd_Mo_meet_73 (kk := ?_)
            refine mo_l49 C dd_Mo_meet_75 (by omega) (kk := ?_)
            refine gx_topi _ hxa.1 ?_
            refine gx_iload C 2 dd_Mo_meet_76 (kk := ?_)
            refine gx_icmp_ne C 134 dd_Mo_meet_78 (fun h78 => absurd (congrArg nI c1h) h78) (fun h78 => ?_)
            refine gx_aload_n C 4 dd_Mo_meet_81 (kk := ?_)
            refine mo_get C fd_Mo_26 dd_Mo_meet_82 (kk := ?_)
            refine gx_iload C 0 dd_Mo_meet_85 (kk := ?_)
            refine mo_l49 C dd_Mo_meet_87 (by omega) (kk := ?_)
            refine gx_topi _ hyb.1 ?_
            refine gx_iload C 3 dd_Mo_meet_88 (kk := ?_)
            refine gx_icmp_ne C 134 dd_Mo_meet_90 (fun h90 => absurd (congrArg nI c2h) h90) (fun h90 => ?_)
            refine gx_aload_n C 4 dd_Mo_meet_93 (kk := ?_)
            refine mo_get C fd_Mo_35 dd_Mo_meet_94 (kk := ?_)
            refine gx_iload C 1 dd_Mo_meet_97 (kk := ?_)
            refine mo_l52 C dd_Mo_meet_99 (by omega) (kk := ?_)
            refine gx_topi _ hxa.2.2.2.1 ?_
            refine gx_aload_n C 4 dd_Mo_meet_100 (kk := ?_)
            refine mo_get C fd_Mo_32 dd_Mo_meet_101 (kk := ?_)
            refine gx_iload C 0 dd_Mo_meet_104 (kk := ?_)
            refine mo_l51 C dd_Mo_meet_106 (by omega) (kk := ?_)
            refine gx_topi _ hyb.2.2.1 ?_
            refine gx_icmp_ne C 134 dd_Mo_meet_107 (fun h107 => absurd (congrArg nI c3h) h107) (fun h107 => ?_)
            refine gx_aload_n C 4 dd_Mo_meet_110 (kk := ?_)
            refine mo_get C fd_Mo_35 dd_Mo_meet_111 (kk := ?_)
            refine gx_iload C 1 dd_Mo_meet_114 (kk := ?_)
            refine mo_l52 C dd_Mo_meet_116 (by omega) (kk := ?_)
            refine gx_topi _ hxa.2.2.2.1 ?_
            refine gx_if_ne C 124 dd_Mo_meet_117 (fun h117 => ?_) (fun h117 => absurd h117 (nI_ne0 (by omega) (by omega)))
            refine gx_iconst (v := nI 0) C dd_Mo_meet_124 (kk := ?_)
            refine gx_iload C 8 dd_Mo_meet_125 (kk := ?_)
            refine gx_icmp_ne C 134 dd_Mo_meet_127 (fun h127 => ?_) (fun h127 => absurd h127 (by decide))
            refine gx_iconst (v := nI 0) C dd_Mo_meet_134 (kk := ?_)
            refine gx_istore C _ dd_Mo_meet_135 (kk := ?_)
            refine gx_iload C 0 dd_Mo_meet_137 (kk := ?_)
            refine gx_if_eq C 200 dd_Mo_meet_139 (fun h139 => ?_) (fun h139 => absurd rfl h139)
            refine gx_iinc C 1 (nI (65 * ib + (j + 1))) _ dd_Mo_meet_200 (nI_1 _) (kk := ?_)
            refine gx_goto C 53 dd_Mo_meet_203 (kk := ?_)
            refine gx_loc [0, 2, 3, 4, 5, 6, 7, 8, 9] ?_
            exact ihj (j + 1) c1 F1 L1 S1 (by omega) (by rw [hE, fm_d hy0, hg, List.nil_append]) hiv1 hw1 hS1
          · have hg : mm_i t.1 t.2.1 true x y0 = [co_i2 x y0] := if_pos ⟨c1h, c2h, c3h, decide_eq_true c4h⟩
            refine gx_aload_n C 4 dd_Mo_meet_69 (kk := ?_)
            refine mo_get C fd_Mo_26 dd_Mo_meet_70 (kk := ?_)
            refine gx_iload C 1 dd_Mo_meet_73 (kk := ?_)
            refine mo_l49 C dd_Mo_meet_75 (by omega) (kk := ?_)
            refine gx_topi _ hxa.1 ?_
            refine gx_iload C 2 dd_Mo_meet_76 (kk := ?_)
            refine gx_icmp_ne C 134 dd_Mo_meet_78 (fun h78 => absurd (congrArg nI c1h) h78) (fun h78 => ?_)
            refine gx_aload_n C 4 dd_Mo_meet_81 (kk := ?_)
            refine mo_get C fd_Mo_26 dd_Mo_meet_82 (kk := ?_)
            refine gx_iload C 0 dd_Mo_meet_85 (kk := ?_)
            refine mo_l49 C dd_Mo_meet_87 (by omega) (kk := ?_)
            refine gx_topi _ hyb.1 ?_
            refine gx_iload C 3 dd_Mo_meet_88 (kk := ?_)
            refine gx_icmp_ne C 134 dd_Mo_meet_90 (fun h90 => absurd (congrArg nI c2h) h90) (fun h90 => ?_)
            refine gx_aload_n C 4 dd_Mo_meet_93 (kk := ?_)
            refine mo_get C fd_Mo_35 dd_Mo_meet_94 (kk := ?_)
            refine gx_iload C 1 dd_Mo_meet_97 (kk := ?_)
            refine mo_l52 C dd_Mo_meet_99 (by omega) (kk := ?_)
            refine gx_topi _ hxa.2.2.2.1 ?_
            refine gx_aload_n C 4 dd_Mo_meet_100 (kk := ?_)
            refine mo_get C fd_Mo_32 dd_Mo_meet_101 (kk := ?_)
            refine gx_iload C 0 dd_Mo_meet_104 (kk := ?_)
            refine mo_l51 C dd_Mo_meet_106 (by omega) (kk := ?_)
            refine gx_topi _ hyb.2.2.1 ?_
            refine gx_icmp_ne C 134 dd_Mo_meet_107 (fun h107 => absurd (congrArg nI c3h) h107) (fun h107 => ?_)
            refine gx_aload_n C 4 dd_Mo_meet_110 (kk := ?_)
            refine mo_get C fd_Mo_35 dd_Mo_meet_111 (kk := ?_)
            refine gx_iload C 1 dd_Mo_meet_114 (kk := ?_)
            refine mo_l52 C dd_Mo_meet_116 (by omega) (kk := ?_)
            refine gx_topi _ hxa.2.2.2.1 ?_
            refine gx_if_ne C 124 dd_Mo_meet_117 (fun h117 => absurd (show nI (x.1 / 16 % 8) = 0 by rw [c4h]; rfl) h117) (fun h117 => ?_)
            refine gx_iconst (v := nI 1) C dd_Mo_meet_120 (kk := ?_)
            refine gx_goto C 125 dd_Mo_meet_121 (kk := ?_)
            refine gx_iload C 8 dd_Mo_meet_125 (kk := ?_)
            refine gx_icmp_ne C 134 dd_Mo_meet_127 (fun h127 => absurd rfl h127) (fun h127 => ?_)
            refine gx_iconst (v := nI 1) C dd_Mo_meet_130 (kk := ?_)
            refine gx_goto C 135 dd_Mo_meet_131 (kk := ?_)
            refine gx_istore C _ dd_Mo_meet_135 (kk := ?_)
            refine gx_iload C 0 dd_Mo_meet_137 (kk := ?_)
            refine gx_if_eq C 200 dd_Mo_meet_139 (fun h139 => absurd h139 (by decide)) (fun h139 => ?_)
            refine gx_aload_n C 5 dd_Mo_meet_142 (kk := ?_)
            refine gx_iload_n C 8 dd_Mo_meet_143 (kk := ?_)
            refine gx_aload_n C 5 dd_Mo_meet_144 (kk := ?_)
            refine gx_aload_n C 5 dd_Mo_meet_145 (kk := ?_)
            refine mo_get C fd_Mo_29 dd_Mo_meet_146 (kk := ?_)
            refine gx_iload C 2 dd_Mo_meet_149 (kk := ?_)
            refine mo_l50 C dd_Mo_meet_151 (by omega) (kk := ?_)
            refine gx_topi _ hxa.2.1 ?_
            refine gx_aload_n C 5 dd_Mo_meet_152 (kk := ?_)
            refine mo_get C fd_Mo_29 dd_Mo_meet_153 (kk := ?_)
            refine gx_iload C 1 dd_Mo_meet_156 (kk := ?_)
            refine mo_l50 C dd_Mo_meet_158 (by omega) (kk := ?_)
            refine gx_topi _ hyb.2.1 ?_
            refine gx_iconst (v := nI 0) C dd_Mo_meet_159 (kk := ?_)
            refine gx_callV C (ct_Mo_reach (gx_l K) D dA ad h F1 L1 S1 (T := c1.1) (t := (x.1 % 16, y0.1 % 16, 0)) hiv1.2.1 ⟨by show x.1 % 16 < 16; omega, by show y0.1 % 16 < 16; omega, by show 0 < 3; decide⟩) me_Mo_reach ml_Mo_107 mn_Mo_reach _ (gx_w_at (by decide) mo_h_43) rfl dd_Mo_meet_160 (kk := fun v w hq => ?_)
            rcases hq with ⟨y, hy, rfl, F2, S2, rfl, hmt2, hy16, hF2, hS2⟩ | ⟨hy, rfl, rfl⟩
            · have hk2 : ∀ k, k < 57 → F2 k = F1 k := fun k hk => hF2 k (by omega)
              have hxa := (mo_w_is (mo_w_r hw1 hF2) hia hA).2.2.2.2.1 i x hx
              have hyb := (mo_w_is (mo_w_r hw1 hF2) hib hB).2.2.2.2.1 j y0 hy0
              refine gx_aload_n C 5 dd_Mo_meet_163 (kk := ?_)
              refine mo_get C fd_Mo_32 dd_Mo_meet_164 (kk := ?_)
              refine gx_iload C 2 dd_Mo_meet_167 (kk := ?_)
              refine mo_l51 C dd_Mo_meet_169 (by omega) (kk := ?_)
              refine gx_topi _ hxa.2.2.1 ?_
              refine gx_aload_n C 5 dd_Mo_meet_170 (kk := ?_)
              refine mo_get C fd_Mo_35 dd_Mo_meet_171 (kk := ?_)
              refine gx_iload C 1 dd_Mo_meet_174 (kk := ?_)
              refine mo_l52 C dd_Mo_meet_176 (by omega) (kk := ?_)
              refine gx_topi _ hyb.2.2.2.1 ?_
              refine gx_aload_n C 5 dd_Mo_meet_177 (kk := ?_)
              refine mo_get C fd_Mo_38 dd_Mo_meet_178 (kk := ?_)
              refine gx_iload C 2 dd_Mo_meet_181 (kk := ?_)
              refine mo_l53 C dd_Mo_meet_183 (by omega) (kk := ?_)
              refine gx_topl _ hxa.2.2.2.2 ?_
              refine gx_aload_n C 5 dd_Mo_meet_184 (kk := ?_)
              refine mo_get C fd_Mo_38 dd_Mo_meet_185 (kk := ?_)
              refine gx_iload C 1 dd_Mo_meet_188 (kk := ?_)
              refine mo_l53 C dd_Mo_meet_190 (by omega) (kk := ?_)
              refine gx_topl _ hyb.2.2.2.2 ?_
              refine gx_ladd C dd_Mo_meet_191 (kk := ?_)
              refine gx_topl _ (lN_add _ _) ?_
              refine gx_callV C (ct_Mo_linkP (gx_l K) D dA ad h F2 L1 S2 (f := k) (t := y.1) (i := x.1 / 128 % 8) (o := y0.1 / 16 % 8) (x0 := x.2 + y0.2) (B := 4000000000) (a := (0, st, (fun _ => none), c1.2)) (mo_is_k hk2 (fun _ _ => rfl) hiv1.1) hiv1.2.2.1 (fun z hz => (hiv1.2.2.2 z hz).1) (fun z hz => (hiv1.2.2.2 z hz).2) (by decide) hk16 hy16 (by omega) (by omega) (by omega)) me_Mo_link ml_Mo_111 mn_Mo_link _ (gx_w_at (by decide) mo_h_43) rfl dd_Mo_meet_192 (kk := fun v w hq => ?_)
              rcases hq with ⟨hr3, rfl, F3, L3, rfl, hM3, hf3⟩ | ⟨hr3, rfl, rfl⟩
              · have hC : co_run k (co_both (am_ar A) (am_ar B) t.1 t.2.1 true) c = co_run k (((am_ar B).drop (j + 1)).flatMap (mm_i t.1 t.2.1 true x) ++ ((am_ar A).drop (i + 1)).flatMap (fun x => (am_ar B).flatMap (mm_i t.1 t.2.1 true x))) (y.2, am_in (pr_k k (x.1 / 128 % 8) (y0.1 / 16 % 8) y.1) (x.2 + y0.2) c1.2) := by
                  rw [hE, fm_d hy0, hg, List.singleton_append, List.cons_append]
                  exact mc_cons hy hr3
                refine gx_if_ne C 200 dd_Mo_meet_195 (fun h195 => ?_) (fun h195 => absurd h195 (by decide))
                refine gx_iinc C 1 (nI (65 * ib + (j + 1))) _ dd_Mo_meet_200 (nI_1 _) (kk := ?_)
                refine gx_goto C 53 dd_Mo_meet_203 (kk := ?_)
                refine gx_loc [0, 2, 3, 4, 5, 6, 7, 8, 9] ?_
                exact ihj (j + 1) _ F3 L3 S2 (by omega) hC (mc_step hiv1 hmt2 hM3 hf3 (by unfold pr_k; omega) (by omega)) (mo_w_tr (mo_w_r hw1 hF2) (mo_w_fr hf3)) (mo_s_r hS1 hS2)
              · have hN : co_run k (co_both (am_ar A) (am_ar B) t.1 t.2.1 true) c = none := by
                  rw [hE, fm_d hy0, hg, List.singleton_append, List.cons_append]
                  exact mc_norm hy hr3
                refine gx_if_ne C 200 dd_Mo_meet_195 (fun h195 => absurd rfl h195) (fun h195 => ?_)
                refine gx_iconst (v := nI 0) C dd_Mo_meet_198 (kk := ?_)
                refine gx_zret C dd_Mo_meet_199 (by first | rfl | exact fb_nar) ?_
                rw [hN]
                exact ⟨_, _, _, rfl, mo_w_r hw1 hF2, mo_s_r hS1 hS2, rfl⟩
            · refine gx_aload_n C 5 dd_Mo_meet_163 (kk := ?_)
              refine mo_get C fd_Mo_32 dd_Mo_meet_164 (kk := ?_)
              refine gx_iload C 2 dd_Mo_meet_167 (kk := ?_)
              refine mo_l51 C dd_Mo_meet_169 (by omega) (kk := ?_)
              refine gx_topi _ hxa.2.2.1 ?_
              refine gx_aload_n C 5 dd_Mo_meet_170 (kk := ?_)
              refine mo_get C fd_Mo_35 dd_Mo_meet_171 (kk := ?_)
              refine gx_iload C 1 dd_Mo_meet_174 (kk := ?_)
              refine mo_l52 C dd_Mo_meet_176 (by omega) (kk := ?_)
              refine gx_topi _ hyb.2.2.2.1 ?_
              refine gx_aload_n C 5 dd_Mo_meet_177 (kk := ?_)
              refine mo_get C fd_Mo_38 dd_Mo_meet_178 (kk := ?_)
              refine gx_iload C 2 dd_Mo_meet_181 (kk := ?_)
              refine mo_l53 C dd_Mo_meet_183 (by omega) (kk := ?_)
              refine gx_topl _ hxa.2.2.2.2 ?_
              refine gx_aload_n C 5 dd_Mo_meet_184 (kk := ?_)
              refine mo_get C fd_Mo_38 dd_Mo_meet_185 (kk := ?_)
              refine gx_iload C 1 dd_Mo_meet_188 (kk := ?_)
              refine mo_l53 C dd_Mo_meet_190 (by omega) (kk := ?_)
              refine gx_topl _ hyb.2.2.2.2 ?_
              refine gx_ladd C dd_Mo_meet_191 (kk := ?_)
              refine gx_topl _ (lN_add _ _) ?_
              refine gx_callV C (ct_Mo_linkN (gx_l K) D dA ad h F1 L1 S1 _ _ _ _) me_Mo_link ml_Mo_111 mn_Mo_link _ (gx_w_at (by decide) mo_h_43) rfl dd_Mo_meet_192 (kk := fun v w hq => ?_)
              obtain ⟨rfl, rfl⟩ := hq
              · have hN : co_run k (co_both (am_ar A) (am_ar B) t.1 t.2.1 true) c = none := by
                  rw [hE, fm_d hy0, hg, List.singleton_append, List.cons_append]
                  exact mc_nofd hy
                refine gx_if_ne C 200 dd_Mo_meet_195 (fun h195 => absurd rfl h195) (fun h195 => ?_)
                refine gx_iconst (v := nI 0) C dd_Mo_meet_198 (kk := ?_)
                refine gx_zret C dd_Mo_meet_199 (by first | rfl | exact fb_nar) ?_
                rw [hN]
                exact ⟨_, _, _, rfl, hw1, hS1, rfl⟩
      exact inner (am_ar B).length 0 c1 F1 L1 S1 (by omega) (by rw [hE, fm_d hx]; rfl) hiv1 hw1 hS1
  refine gx_aload_n C 0 dd_Mo_meet_0 (kk := ?_)
  refine mo_get C fd_Mo_69 dd_Mo_meet_1 (kk := ?_)
  refine gx_iload_n C 3 dd_Mo_meet_4 (kk := ?_)
  refine mo_l63 C dd_Mo_meet_5 (by omega) (kk := ?_)
  refine gx_topi _ (hiv.2.1.2.1 k t hkt) ?_
  refine gx_bipush (v := nI 16) C dd_Mo_meet_6 (kk := ?_)
  refine gx_irem C dd_Mo_meet_8 (kk := ?_)
  refine gx_topi (nI t.1) (mc_p hto) ?_
  refine gx_istore C _ dd_Mo_meet_9 (kk := ?_)
  refine gx_aload_n C 1 dd_Mo_meet_11 (kk := ?_)
  refine mo_get C fd_Mo_69 dd_Mo_meet_12 (kk := ?_)
  refine gx_iload_n C 4 dd_Mo_meet_15 (kk := ?_)
  refine mo_l63 C dd_Mo_meet_16 (by omega) (kk := ?_)
  refine gx_topi _ (hiv.2.1.2.1 k t hkt) ?_
  refine gx_bipush (v := nI 16) C dd_Mo_meet_17 (kk := ?_)
  refine gx_idiv C dd_Mo_meet_19 (kk := ?_)
  refine gx_topi _ (mc_q1 hto) ?_
  refine gx_bipush (v := nI 16) C dd_Mo_meet_20 (kk := ?_)
  refine gx_irem C dd_Mo_meet_22 (kk := ?_)
  refine gx_topi (nI t.2.1) (mc_q2 hto) ?_
  refine gx_istore C _ dd_Mo_meet_23 (kk := ?_)
  refine gx_bipush (v := nI 65) C dd_Mo_meet_25 (kk := ?_)
  refine gx_iload_n C 3 dd_Mo_meet_27 (kk := ?_)
  refine gx_imul C dd_Mo_meet_28 (kk := ?_)
  refine gx_topi _ (pk_mul _ _) ?_
  refine gx_istore C _ dd_Mo_meet_29 (kk := ?_)
  refine gx_loc [0, 2, 1, 3, 4, 5, 6, 7] ?_
  exact outer (am_ar A).length 0 c F L S (by omega) (by rw [mm_both]; rfl) hiv mo_w_rf (fun _ _ => rfl)
set_option maxRecDepth 100000 in
set_option maxHeartbeats 4000000 in
theorem ct_Mo_meetF (l : Launch) (D : va_G) (dA : Nat → ClassId) (ad : Nat → Nat) (h : Nat → va_E) (F : mo_F) (L : mo_L) (S : Nat → Int32) {ia ib : Nat} {A B : am_T} (hia : ia < 4) (hib : ib < 4) (hA : mo_is F L ia A) (hB : mo_is F L ib B) (hAb : ∀ x ∈ am_ar A, x.1 < 16384 ∧ x.2 < 1000000001) (hBb : ∀ x ∈ am_ar B, x.1 < 16384 ∧ x.2 < 1000000001) {st : Option (Nat × Nat)} {c : co_S} {k : Nat} {t : co_t} (hiv : mc_iv F L S st c) (hkt : c.1[k]? = some t) : gx_Ct l D dA yy_Mo_meet cc_Mo_meet 10 (some .boolean) 3 0 0 [.ref (ad 43), .int (nI ia), .int (nI ib), .int (nI k), .int (nI 0)] (gx_w ad (mo_h dA ad h F L S)) (fun v w => ∃ F2 L2 S2, w = (gx_w ad (mo_h dA ad h F2 L2 S2)) ∧ mo_w F L F2 L2 ∧ (∀ k, k ≠ 27 → S2 k = S k) ∧ mc_r v F2 L2 S2 st (co_run k (co_both (am_ar A) (am_ar B) t.1 t.2.1 false) c)) := by
  refine gx_of (by decide) (Nat.le_of_ble_eq_true rfl) (fun K C _ _ => ?_)
  have hto := hiv.2.1.2.2.1 t (List.mem_of_getElem? hkt)
  have hk16 : k < 16 := by
    have := (List.getElem?_eq_some_iff.mp hkt).1
    have := hiv.2.1.2.2.2
    omega
  obtain ⟨ht1, ht2, ht3⟩ := hto
  have hto : co_ok t := ⟨ht1, ht2, ht3⟩
  have hla := hA.2.2.2.2.2
  have hlb := hB.2.2.2.2.2
  have outer : ∀ m i c1 F1 L1 S1, i + m = (am_ar A).length → co_run k (co_both (am_ar A) (am_ar B) t.1 t.2.1 false) c = co_run k (((am_ar A).drop i).flatMap (fun x => (am_ar B).flatMap (mm_i t.1 t.2.1 false x))) c1 → mc_iv F1 L1 S1 st c1 → mo_w F L F1 L1 → (∀ k, k ≠ 27 → S1 k = S k) → gx_G K D 10 0 0 31 [(7, .int (nI (65 * ia + i))), (5, .int (nI t.1)), (6, .int (nI t.2.1)), (0, .ref (ad 43)), (1, .int (nI ia)), (2, .int (nI ib)), (3, .int (nI k)), (4, .int (nI 0))] [] (gx_w ad (mo_h dA ad h F1 L1 S1)) (gx_Z K D dA 0 0 (fun v w => ∃ F2 L2 S2, w = (gx_w ad (mo_h dA ad h F2 L2 S2)) ∧ mo_w F L F2 L2 ∧ (∀ k, k ≠ 27 → S2 k = S k) ∧ mc_r v F2 L2 S2 st (co_run k (co_both (am_ar A) (am_ar B) t.1 t.2.1 false) c))) := by
    intro m
    induction m with
    | zero =>
      intro i c1 F1 L1 S1 hi hE hiv1 hw1 hS1
      refine gx_iload C 0 dd_Mo_meet_31 (kk := ?_)
      refine gx_bipush (v := nI 65) C dd_Mo_meet_33 (kk := ?_)
      refine gx_iload_n C 4 dd_Mo_meet_35 (kk := ?_)
      refine gx_imul C dd_Mo_meet_36 (kk := ?_)
      refine gx_topi _ (pk_mul _ _) ?_
      refine gx_aload_n C 3 dd_Mo_meet_37 (kk := ?_)
      refine mo_get C fd_Mo_23 dd_Mo_meet_38 (kk := ?_)
      refine gx_iload_n C 4 dd_Mo_meet_41 (kk := ?_)
      refine mo_l48 C dd_Mo_meet_42 (by omega) (kk := ?_)
      refine gx_topi _ (mo_w_is hw1 hia hA).2.2.2.1 ?_
      refine gx_iadd C dd_Mo_meet_43 (kk := ?_)
      refine gx_topi _ (nI_add _ _) ?_
      refine gx_icmp_ge C 212 dd_Mo_meet_44 (fun h44 => ?_) (fun h44 => absurd (nI_le (a := 65 * ia + (am_ar A).length) (b := 65 * ia + i) (by omega) (by omega)) h44)
      refine gx_iconst (v := nI 1) C dd_Mo_meet_212 (kk := ?_)
      refine gx_zret C dd_Mo_meet_213 (by first | rfl | exact fb_nar) ?_
      rw [hE, fm_n (by omega)]
      exact ⟨_, _, _, rfl, hw1, hS1, rfl, hiv1⟩
    | succ m ih =>
      intro i c1 F1 L1 S1 hi hE hiv1 hw1 hS1
      obtain ⟨x, hx⟩ : ∃ x, (am_ar A)[i]? = some x := ⟨_, List.getElem?_eq_getElem (by omega)⟩
      have hxbb := hAb x (List.mem_of_getElem? hx)
      refine gx_iload C 0 dd_Mo_meet_31 (kk := ?_)
      refine gx_bipush (v := nI 65) C dd_Mo_meet_33 (kk := ?_)
      refine gx_iload_n C 4 dd_Mo_meet_35 (kk := ?_)
      refine gx_imul C dd_Mo_meet_36 (kk := ?_)
      refine gx_topi _ (pk_mul _ _) ?_
      refine gx_aload_n C 3 dd_Mo_meet_37 (kk := ?_)
      refine mo_get C fd_Mo_23 dd_Mo_meet_38 (kk := ?_)
      refine gx_iload_n C 4 dd_Mo_meet_41 (kk := ?_)
      refine mo_l48 C dd_Mo_meet_42 (by omega) (kk := ?_)
      refine gx_topi _ (mo_w_is hw1 hia hA).2.2.2.1 ?_
      refine gx_iadd C dd_Mo_meet_43 (kk := ?_)
      refine gx_topi _ (nI_add _ _) ?_
      refine gx_icmp_ge C 212 dd_Mo_meet_44 (fun h44 => absurd h44 (nI_ge (by omega) (by omega))) (fun h44 => ?_)
      refine gx_bipush (v := nI 65) C dd_Mo_meet_47 (kk := ?_)
      refine gx_iload_n C 5 dd_Mo_meet_49 (kk := ?_)
      refine gx_imul C dd_Mo_meet_50 (kk := ?_)
      refine gx_topi _ (pk_mul _ _) ?_
      refine gx_istore C _ dd_Mo_meet_51 (kk := ?_)
      have inner : ∀ m j c1 F1 L1 S1, j + m = (am_ar B).length → co_run k (co_both (am_ar A) (am_ar B) t.1 t.2.1 false) c = co_run k (((am_ar B).drop j).flatMap (mm_i t.1 t.2.1 false x) ++ ((am_ar A).drop (i + 1)).flatMap (fun x => (am_ar B).flatMap (mm_i t.1 t.2.1 false x))) c1 → mc_iv F1 L1 S1 st c1 → mo_w F L F1 L1 → (∀ k, k ≠ 27 → S1 k = S k) → gx_G K D 10 0 0 53 [(8, .int (nI (65 * ib + j))), (7, .int (nI (65 * ia + i))), (5, .int (nI t.1)), (6, .int (nI t.2.1)), (0, .ref (ad 43)), (1, .int (nI ia)), (2, .int (nI ib)), (3, .int (nI k)), (4, .int (nI 0))] [] (gx_w ad (mo_h dA ad h F1 L1 S1)) (gx_Z K D dA 0 0 (fun v w => ∃ F2 L2 S2, w = (gx_w ad (mo_h dA ad h F2 L2 S2)) ∧ mo_w F L F2 L2 ∧ (∀ k, k ≠ 27 → S2 k = S k) ∧ mc_r v F2 L2 S2 st (co_run k (co_both (am_ar A) (am_ar B) t.1 t.2.1 false) c))) := by
        intro m
        induction m with
        | zero =>
          intro j c1 F1 L1 S1 hj hE hiv1 hw1 hS1
          refine gx_iload C 0 dd_Mo_meet_53 (kk := ?_)
          refine gx_bipush (v := nI 65) C dd_Mo_meet_55 (kk := ?_)
          refine gx_iload_n C 6 dd_Mo_meet_57 (kk := ?_)
          refine gx_imul C dd_Mo_meet_58 (kk := ?_)
          refine gx_topi _ (pk_mul _ _) ?_
          refine gx_aload_n C 4 dd_Mo_meet_59 (kk := ?_)
          refine mo_get C fd_Mo_23 dd_Mo_meet_60 (kk := ?_)
          refine gx_iload_n C 6 dd_Mo_meet_63 (kk := ?_)
          refine mo_l48 C dd_Mo_meet_64 (by omega) (kk := ?_)
          refine gx_topi _ (mo_w_is hw1 hib hB).2.2.2.1 ?_
          refine gx_iadd C dd_Mo_meet_65 (kk := ?_)
          refine gx_topi _ (nI_add _ _) ?_
          refine gx_icmp_ge C 206 dd_Mo_meet_66 (fun h66 => ?_) (fun h66 => absurd (nI_le (a := 65 * ib + (am_ar B).length) (b := 65 * ib + j) (by omega) (by omega)) h66)
          refine gx_iinc C 1 (nI (65 * ia + (i + 1))) _ dd_Mo_meet_206 (nI_1 _) (kk := ?_)
          refine gx_goto C 31 dd_Mo_meet_209 (kk := ?_)
          refine gx_loc [0, 2, 3, 4, 5, 6, 7, 8] ?_
          exact ih (i + 1) c1 F1 L1 S1 (by omega) (by rw [hE, fm_n (by omega), List.nil_append]) hiv1 hw1 hS1
        | succ m ihj =>
          intro j c1 F1 L1 S1 hj hE hiv1 hw1 hS1
          obtain ⟨y0, hy0⟩ : ∃ y, (am_ar B)[j]? = some y := ⟨_, List.getElem?_eq_getElem (by omega)⟩
          have hyb := (mo_w_is hw1 hib hB).2.2.2.2.1 j y0 hy0
          have hybb := hBb y0 (List.mem_of_getElem? hy0)
          have hxa := (mo_w_is hw1 hia hA).2.2.2.2.1 i x hx
          refine gx_iload C 0 dd_Mo_meet_53 (kk := ?_)
          refine gx_bipush (v := nI 65) C dd_Mo_meet_55 (kk := ?_)
          refine gx_iload_n C 6 dd_Mo_meet_57 (kk := ?_)
          refine gx_imul C dd_Mo_meet_58 (kk := ?_)
          refine gx_topi _ (pk_mul _ _) ?_
          refine gx_aload_n C 4 dd_Mo_meet_59 (kk := ?_)
          refine mo_get C fd_Mo_23 dd_Mo_meet_60 (kk := ?_)
          refine gx_iload_n C 6 dd_Mo_meet_63 (kk := ?_)
          refine mo_l48 C dd_Mo_meet_64 (by omega) (kk := ?_)
          refine gx_topi _ (mo_w_is hw1 hib hB).2.2.2.1 ?_
          refine gx_iadd C dd_Mo_meet_65 (kk := ?_)
          refine gx_topi _ (nI_add _ _) ?_
          refine gx_icmp_ge C 206 dd_Mo_meet_66 (fun h66 => absurd h66 (nI_ge (by omega) (by omega))) (fun h66 => ?_)
          rcases (show ¬ x.1 / 1024 = t.1 ∨ (x.1 / 1024 = t.1 ∧ ¬ y0.1 / 1024 = t.2.1) ∨ (x.1 / 1024 = t.1 ∧ y0.1 / 1024 = t.2.1 ∧ ¬ x.1 / 16 % 8 = y0.1 / 128 % 8) ∨ (x.1 / 1024 = t.1 ∧ y0.1 / 1024 = t.2.1 ∧ x.1 / 16 % 8 = y0.1 / 128 % 8 ∧ x.1 / 16 % 8 = 0) ∨ (x.1 / 1024 = t.1 ∧ y0.1 / 1024 = t.2.1 ∧ x.1 / 16 % 8 = y0.1 / 128 % 8 ∧ ¬ x.1 / 16 % 8 = 0) by omega) with c1h | ⟨c1h, c2h⟩ | ⟨c1h, c2h, c3h⟩ | ⟨c1h, c2h, c3h, c4h⟩ | ⟨c1h, c2h, c3h, c4h⟩
          · have hg : mm_i t.1 t.2.1 false x y0 = [] := if_neg (fun cc => c1h cc.1)
            refine gx_aload_n C 4 dd_Mo_meet_69 (kk := ?_)
            refine mo_get C fd_Mo_26 dd_Mo_meet_70 (kk := ?_)
            refine gx_iload C 1 dd_Mo_meet_73 (kk := ?_)
            refine mo_l49 C dd_Mo_meet_75 (by omega) (kk := ?_)
            refine gx_topi _ hxa.1 ?_
            refine gx_iload C 2 dd_Mo_meet_76 (kk := ?_)
            refine gx_icmp_ne C 134 dd_Mo_meet_78 (fun h78 => ?_) (fun h78 => absurd ((nI_eq (by omega) (by omega)).mp h78) c1h)
            refine gx_iconst (v := nI 0) C dd_Mo_meet_134 (kk := ?_)
            refine gx_istore C _ dd_Mo_meet_135 (kk := ?_)
            refine gx_iload C 0 dd_Mo_meet_137 (kk := ?_)
            refine gx_if_eq C 200 dd_Mo_meet_139 (fun h139 => ?_) (fun h139 => absurd rfl h139)
            refine gx_iinc C 1 (nI (65 * ib + (j + 1))) _ dd_Mo_meet_200 (nI_1 _) (kk := ?_)
            refine gx_goto C 53 dd_Mo_meet_203 (kk := ?_)
            refine gx_loc [0, 2, 3, 4, 5, 6, 7, 8, 9] ?_
            exact ihj (j + 1) c1 F1 L1 S1 (by omega) (by rw [hE, fm_d hy0, hg, List.nil_append]) hiv1 hw1 hS1
          · have hg : mm_i t.1 t.2.1 false x y0 = [] := if_neg (fun cc => c2h cc.2.1)
            refine gx_aload_n C 4 dd_Mo_meet_69 (kk := ?_)
            refine mo_get C fd_Mo_26 dd_Mo_meet_70 (kk := ?_)
            refine gx_iload C 1 dd_Mo_meet_73 (kk := ?_)
            refine mo_l49 C dd_Mo_meet_75 (by omega) (kk := ?_)
            refine gx_topi _ hxa.1 ?_
            refine gx_iload C 2 dd_Mo_meet_76 (kk := ?_)
            refine gx_icmp_ne C 134 dd_Mo_meet_78 (fun h78 => absurd (congrArg nI c1h) h78) (fun h78 => ?_)
            refine gx_aload_n C 4 dd_Mo_meet_81 (kk := ?_)
            refine mo_get C fd_Mo_26 dd_Mo_meet_82 (kk := ?_)
            refine gx_iload C 0 dd_Mo_meet_85 (kk := ?_)
            refine mo_l49 C dd_Mo_meet_87 (by omega) (kk := ?_)
            refine gx_topi _ hyb.1 ?_
            refine gx_iload C 3 dd_Mo_meet_88 (kk := ?_)
            refine gx_icmp_ne C 134 dd_Mo_meet_90 (fun h90 => ?_) (fun h90 => absurd ((nI_eq (by omega) (by omega)).mp h90) c2h)
            refine gx_iconst (v := nI 0) C dd_Mo_meet_134 (kk := ?_)
            refine gx_istore C _ dd_Mo_meet_135 (kk := ?_)
            refine gx_iload C 0 dd_Mo_meet_137 (kk := ?_)
            refine gx_if_eq C 200 dd_Mo_meet_139 (fun h139 => ?_) (fun h139 => absurd rfl h139)
            refine gx_iinc C 1 (nI (65 * ib + (j + 1))) _ dd_Mo_meet_200 (nI_1 _) (kk := ?_)
            refine gx_goto C 53 dd_Mo_meet_203 (kk := ?_)
            refine gx_loc [0, 2, 3, 4, 5, 6, 7, 8, 9] ?_
            exact ihj (j + 1) c1 F1 L1 S1 (by omega) (by rw [hE, fm_d hy0, hg, List.nil_append]) hiv1 hw1 hS1
          · have hg : mm_i t.1 t.2.1 false x y0 = [] := if_neg (fun cc => c3h cc.2.2.1)
            refine gx_aload_n C 4 dd_Mo_meet_69 (kk := ?_)
            refine mo_get C fd_Mo_26 dd_Mo_meet_70 (kk := ?_)
            refine gx_iload C 1 dd_Mo_meet_73 (kk := ?_)
            refine mo_l49 C dd_Mo_meet_75 (by omega) (kk := ?_)
            refine gx_topi _ hxa.1 ?_
            refine gx_iload C 2 dd_Mo_meet_76 (kk := ?_)
            refine gx_icmp_ne C 134 dd_Mo_meet_78 (fun h78 => absurd (congrArg nI c1h) h78) (fun h78 => ?_)
            refine gx_aload_n C 4 dd_Mo_meet_81 (kk := ?_)
            refine mo_get C fd_Mo_26 dd_Mo_meet_82 (kk := ?_)
            refine gx_iload C 0 dd_Mo_meet_85 (kk := ?_)
            refine mo_l49 C dd_Mo_meet_87 (by omega) (kk := ?_)
            refine gx_topi _ hyb.1 ?_
            refine gx_iload C 3 dd_Mo_meet_88 (kk := ?_)
            refine gx_icmp_ne C 134 dd_Mo_meet_90 (fun h90 => absurd (congrArg nI c2h) h90) (fun h90 => ?_)
            refine gx_aload_n C 4 dd_Mo_meet_93 (kk := ?_)
            refine mo_get C fd_Mo_35 dd_Mo_meet_94 (kk := ?_)
            refine gx_iload C 1 dd_Mo_meet_97 (kk := ?_)
            refine mo_l52 C dd_Mo_meet_99 (by omega) (kk := ?_)
            refine gx_topi _ hxa.2.2.2.1 ?_
            refine gx_aload_n C 4 dd_Mo_meet_100 (kk := ?_)
            refine mo_get C fd_Mo_32 dd_Mo_meet_101 (kk := ?_)
            refine gx_iload C 0 dd_Mo_meet_104 (kk := ?_)
            refine mo_l51 C dd_Mo_meet_106 (by omega) (kk := ?_)
            refine gx_topi _ hyb.2.2.1 ?_
            refine gx_icmp_ne C 134 dd_Mo_meet_107 (fun h107 => ?_) (fun h107 => absurd ((nI_eq (by omega) (by omega)).mp h107) c3h)
            refine gx_iconst (v := nI 0) C dd_Mo_meet_134 (kk := ?_)
            refine gx_istore C _ dd_Mo_meet_135 (kk := ?_)
            refine gx_iload C 0 dd_Mo_meet_137 (kk := ?_)
            refine gx_if_eq C 200 dd_Mo_meet_139 (fun h139 => ?_) (fun h139 => absurd rfl h139)
            refine gx_iinc C 1 (nI (65 * ib + (j + 1))) _ dd_Mo_meet_200 (nI_1 _) (kk := ?_)
            refine gx_goto C 53 dd_Mo_meet_203 (kk := ?_)
            refine gx_loc [0, 2, 3, 4, 5, 6, 7, 8, 9] ?_
            exact ihj (j + 1) c1 F1 L1 S1 (by omega) (by rw [hE, fm_d hy0, hg, List.nil_append]) hiv1 hw1 hS1
          · have hg : mm_i t.1 t.2.1 false x y0 = [] := if_neg (fun cc => absurd c4h (of_decide_eq_false cc.2.2.2))
            refine gx_aload_n C 4 dd_Mo_meet_69 (kk := ?_)
            refine mo_get C fd_Mo_26 dd_Mo_meet_70 (kk := ?_)
            refine gx_iload C 1 dd_Mo_meet_73 (kk := ?_)
            refine mo_l49 C dd_Mo_meet_75 (by omega) (kk := ?_)
            refine gx_topi _ hxa.1 ?_
            refine gx_iload C 2 dd_Mo_meet_76 (kk := ?_)
            refine gx_icmp_ne C 134 dd_Mo_meet_78 (fun h78 => absurd (congrArg nI c1h) h78) (fun h78 => ?_)
            refine gx_aload_n C 4 dd_Mo_meet_81 (kk := ?_)
            refine mo_get C fd_Mo_26 dd_Mo_meet_82 (kk := ?_)
            refine gx_iload C 0 dd_Mo_meet_85 (kk := ?_)
            refine mo_l49 C dd_Mo_meet_87 (by omega) (kk := ?_)
            refine gx_topi _ hyb.1 ?_
            refine gx_iload C 3 dd_Mo_meet_88 (kk := ?_)
            refine gx_icmp_ne C 134 dd_Mo_meet_90 (fun h90 => absurd (congrArg nI c2h) h90) (fun h90 => ?_)
            refine gx_aload_n C 4 dd_Mo_meet_93 (kk := ?_)
            refine mo_get C fd_Mo_35 dd_Mo_meet_94 (kk := ?_)
            refine gx_iload C 1 dd_Mo_meet_97 (kk := ?_)
            refine mo_l52 C dd_Mo_meet_99 (by omega) (kk := ?_)
            refine gx_topi _ hxa.2.2.2.1 ?_
            refine gx_aload_n C 4 dd_Mo_meet_100 (kk := ?_)
            refine mo_get C fd_Mo_32 dd_Mo_meet_101 (kk := ?_)
            refine gx_iload C 0 dd_Mo_meet_104 (kk := ?_)
            refine mo_l51 C dd_Mo_meet_106 (by omega) (kk := ?_)
            refine gx_topi _ hyb.2.2.1 ?_
            refine gx_icmp_ne C 134 dd_Mo_meet_107 (fun h107 => absurd (congrArg nI c3h) h107) (fun h107 => ?_)
            refine gx_aload_n C 4 dd_Mo_meet_110 (kk := ?_)
            refine mo_get C fd_Mo_35 dd_Mo_meet_111 (kk := ?_)
            refine gx_iload C 1 dd_Mo_meet_114 (kk := ?_)
            refine mo_l52 C dd_Mo_meet_116 (by omega) (kk := ?_)
            refine gx_topi _ hxa.2.2.2.1 ?_
            refine gx_if_ne C 124 dd_Mo_meet_117 (fun h117 => absurd (show nI (x.1 / 16 % 8) = 0 by rw [c4h]; rfl) h117) (fun h117 => ?_)
            refine gx_iconst (v := nI 1) C dd_Mo_meet_120 (kk := ?_)
            refine gx_goto C 125 dd_Mo_meet_121 (kk := ?_)
            refine gx_iload C 8 dd_Mo_meet_125 (kk := ?_)
            refine gx_icmp_ne C 134 dd_Mo_meet_127 (fun h127 => ?_) (fun h127 => absurd h127 (by decide))
            refine gx_iconst (v := nI 0) C dd_Mo_meet_134 (kk := ?_)
            refine gx_istore C _ dd_Mo_meet_135 (kk := ?_)
            refine gx_iload C 0 dd_Mo_meet_137 (kk := ?_)
            refine gx_if_eq C 200 dd_Mo_meet_139 (fun h139 => ?_) (fun h139 => absurd rfl h139)
            refine gx_iinc C 1 (nI (65 * ib + (j + 1))) _ dd_Mo_meet_200 (nI_1 _) (kk := ?_)
            refine gx_goto C 53 dd_Mo_meet_203 (kk := ?_)
            refine gx_loc [0, 2, 3, 4, 5, 6, 7, 8, 9] ?_
            exact ihj (j + 1) c1 F1 L1 S1 (by omega) (by rw [hE, fm_d hy0, hg, List.nil_append]) hiv1 hw1 hS1
          · have hg : mm_i t.1 t.2.1 false x y0 = [co_i2 x y0] := if_pos ⟨c1h, c2h, c3h, decide_eq_false c4h⟩
            refine gx_aload_n C 4 dd_Mo_meet_69 (kk := ?_)
            refine mo_get C fd_Mo_26 dd_Mo_meet_70 (kk := ?_)
            refine gx_iload C 1 dd_Mo_meet_73 (kk := ?_)
            refine mo_l49 C dd_Mo_meet_75 (by omega) (kk := ?_)
            refine gx_topi _ hxa.1 ?_
            refine gx_iload C 2 dd_Mo_meet_76 (kk := ?_)
            refine gx_icmp_ne C 134 dd_Mo_meet_78 (fun h78 => absurd (congrArg nI c1h) h78) (fun h78 => ?_)
            refine gx_aload_n C 4 dd_Mo_meet_81 (kk := ?_)
            refine mo_get C fd_Mo_26 dd_Mo_meet_82 (kk := ?_)
            refine gx_iload C 0 dd_Mo_meet_85 (kk := ?_)
            refine mo_l49 C dd_Mo_meet_87 (by omega) (kk := ?_)
            refine gx_topi _ hyb.1 ?_
            refine gx_iload C 3 dd_Mo_meet_88 (kk := ?_)
            refine gx_icmp_ne C 134 dd_Mo_meet_90 (fun h90 => absurd (congrArg nI c2h) h90) (fun h90 => ?_)
            refine gx_aload_n C 4 dd_Mo_meet_93 (kk := ?_)
            refine mo_get C fd_Mo_35 dd_Mo_meet_94 (kk := ?_)
            refine gx_iload C 1 dd_Mo_meet_97 (kk := ?_)
            refine mo_l52 C dd_Mo_meet_99 (by omega) (kk := ?_)
            refine gx_topi _ hxa.2.2.2.1 ?_
            refine gx_aload_n C 4 dd_Mo_meet_100 (kk := ?_)
            refine mo_get C fd_Mo_32 dd_Mo_meet_101 (kk := ?_)
            refine gx_iload C 0 dd_Mo_meet_104 (kk := ?_)
            refine mo_l51 C dd_Mo_meet_106 (by omega) (kk := ?_)
            refine gx_topi _ hyb.2.2.1 ?_
            refine gx_icmp_ne C 134 dd_Mo_meet_107 (fun h107 => absurd (congrArg nI c3h) h107) (fun h107 => ?_)
            refine gx_aload_n C 4 dd_Mo_meet_110 (kk := ?_)
            refine mo_get C fd_Mo_35 dd_Mo_meet_111 (kk := ?_)
            refine gx_iload C 1 dd_Mo_meet_114 (kk := ?_)
            refine mo_l52 C dd_Mo_meet_116 (by omega) (kk := ?_)
            refine gx_topi _ hxa.2.2.2.1 ?_
            refine gx_if_ne C 124 dd_Mo_meet_117 (fun h117 => ?_) (fun h117 => absurd h117 (nI_ne0 (by omega) (by omega)))
            refine gx_iconst (v := nI 0) C dd_Mo_meet_124 (kk := ?_)
            refine gx_iload C 8 dd_Mo_meet_125 (kk := ?_)
            refine gx_icmp_ne C 134 dd_Mo_meet_127 (fun h127 => absurd rfl h127) (fun h127 => ?_)
            refine gx_iconst (v := nI 1) C dd_Mo_meet_130 (kk := ?_)
            refine gx_goto C 135 dd_Mo_meet_131 (kk := ?_)
            refine gx_istore C _ dd_Mo_meet_135 (kk := ?_)
            refine gx_iload C 0 dd_Mo_meet_137 (kk := ?_)
            refine gx_if_eq C 200 dd_Mo_meet_139 (fun h139 => absurd h139 (by decide)) (fun h139 => ?_)
            refine gx_aload_n C 5 dd_Mo_meet_142 (kk := ?_)
            refine gx_iload_n C 8 dd_Mo_meet_143 (kk := ?_)
            refine gx_aload_n C 5 dd_Mo_meet_144 (kk := ?_)
            refine gx_aload_n C 5 dd_Mo_meet_145 (kk := ?_)
            refine mo_get C fd_Mo_29 dd_Mo_meet_146 (kk := ?_)
            refine gx_iload C 2 dd_Mo_meet_149 (kk := ?_)
            refine mo_l50 C dd_Mo_meet_151 (by omega) (kk := ?_)
            refine gx_topi _ hxa.2.1 ?_
            refine gx_aload_n C 5 dd_Mo_meet_152 (kk := ?_)
            refine mo_get C fd_Mo_29 dd_Mo_meet_153 (kk := ?_)
            refine gx_iload C 1 dd_Mo_meet_156 (kk := ?_)
            refine mo_l50 C dd_Mo_meet_158 (by omega) (kk := ?_)
            refine gx_topi _ hyb.2.1 ?_
            refine gx_iconst (v := nI 0) C dd_Mo_meet_159 (kk := ?_)
            refine gx_callV C (ct_Mo_reach (gx_l K) D dA ad h F1 L1 S1 (T := c1.1) (t := (x.1 % 16, y0.1 % 16, 0)) hiv1.2.1 ⟨by show x.1 % 16 < 16; omega, by show y0.1 % 16 < 16; omega, by show 0 < 3; decide⟩) me_Mo_reach ml_Mo_107 mn_Mo_reach _ (gx_w_at (by decide) mo_h_43) rfl dd_Mo_meet_160 (kk := fun v w hq => ?_)
            rcases hq with ⟨y, hy, rfl, F2, S2, rfl, hmt2, hy16, hF2, hS2⟩ | ⟨hy, rfl, rfl⟩
            · have hk2 : ∀ k, k < 57 → F2 k = F1 k := fun k hk => hF2 k (by omega)
              have hxa := (mo_w_is (mo_w_r hw1 hF2) hia hA).2.2.2.2.1 i x hx
              have hyb := (mo_w_is (mo_w_r hw1 hF2) hib hB).2.2.2.2.1 j y0 hy0
              refine gx_aload_n C 5 dd_Mo_meet_163 (kk := ?_)
              refine mo_get C fd_Mo_32 dd_Mo_meet_164 (kk := ?_)
              refine gx_iload C 2 dd_Mo_meet_167 (kk := ?_)
              refine mo_l51 C dd_Mo_meet_169 (by omega) (kk := ?_)
              refine gx_topi _ hxa.2.2.1 ?_
              refine gx_aload_n C 5 dd_Mo_meet_170 (kk := ?_)
              refine mo_get C fd_Mo_35 dd_Mo_meet_171 (kk := ?_)
              refine gx_iload C 1 dd_Mo_meet_174 (kk := ?_)
              refine mo_l52 C dd_Mo_meet_176 (by omega) (kk := ?_)
              refine gx_topi _ hyb.2.2.2.1 ?_
              refine gx_aload_n C 5 dd_Mo_meet_177 (kk := ?_)
              refine mo_get C fd_Mo_38 dd_Mo_meet_178 (kk := ?_)
              refine gx_iload C 2 dd_Mo_meet_181 (kk := ?_)
              refine mo_l53 C dd_Mo_meet_183 (by omega) (kk := ?_)
              refine gx_topl _ hxa.2.2.2.2 ?_
              refine gx_aload_n C 5 dd_Mo_meet_184 (kk := ?_)
              refine mo_get C fd_Mo_38 dd_Mo_meet_185 (kk := ?_)
              refine gx_iload C 1 dd_Mo_meet_188 (kk := ?_)
              refine mo_l53 C dd_Mo_meet_190 (by omega) (kk := ?_)
              refine gx_topl _ hyb.2.2.2.2 ?_
              refine gx_ladd C dd_Mo_meet_191 (kk := ?_)
              refine gx_topl _ (lN_add _ _) ?_
              refine gx_callV C (ct_Mo_linkP (gx_l K) D dA ad h F2 L1 S2 (f := k) (t := y.1) (i := x.1 / 128 % 8) (o := y0.1 / 16 % 8) (x0 := x.2 + y0.2) (B := 4000000000) (a := (0, st, (fun _ => none), c1.2)) (mo_is_k hk2 (fun _ _ => rfl) hiv1.1) hiv1.2.2.1 (fun z hz => (hiv1.2.2.2 z hz).1) (fun z hz => (hiv1.2.2.2 z hz).2) (by decide) hk16 hy16 (by omega) (by omega) (by omega)) me_Mo_link ml_Mo_111 mn_Mo_link _ (gx_w_at (by decide) mo_h_43) rfl dd_Mo_meet_192 (kk := fun v w hq => ?_)
              rcases hq with ⟨hr3, rfl, F3, L3, rfl, hM3, hf3⟩ | ⟨hr3, rfl, rfl⟩
              · have hC : co_run k (co_both (am_ar A) (am_ar B) t.1 t.2.1 false) c = co_run k (((am_ar B).drop (j + 1)).flatMap (mm_i t.1 t.2.1 false x) ++ ((am_ar A).drop (i + 1)).flatMap (fun x => (am_ar B).flatMap (mm_i t.1 t.2.1 false x))) (y.2, am_in (pr_k k (x.1 / 128 % 8) (y0.1 / 16 % 8) y.1) (x.2 + y0.2) c1.2) := by
                  rw [hE, fm_d hy0, hg, List.singleton_append, List.cons_append]
                  exact mc_cons hy hr3
                refine gx_if_ne C 200 dd_Mo_meet_195 (fun h195 => ?_) (fun h195 => absurd h195 (by decide))
                refine gx_iinc C 1 (nI (65 * ib + (j + 1))) _ dd_Mo_meet_200 (nI_1 _) (kk := ?_)
                refine gx_goto C 53 dd_Mo_meet_203 (kk := ?_)
                refine gx_loc [0, 2, 3, 4, 5, 6, 7, 8, 9] ?_
                exact ihj (j + 1) _ F3 L3 S2 (by omega) hC (mc_step hiv1 hmt2 hM3 hf3 (by unfold pr_k; omega) (by omega)) (mo_w_tr (mo_w_r hw1 hF2) (mo_w_fr hf3)) (mo_s_r hS1 hS2)
              · have hN : co_run k (co_both (am_ar A) (am_ar B) t.1 t.2.1 false) c = none := by
                  rw [hE, fm_d hy0, hg, List.singleton_append, List.cons_append]
                  exact mc_norm hy hr3
                refine gx_if_ne C 200 dd_Mo_meet_195 (fun h195 => absurd rfl h195) (fun h195 => ?_)
                refine gx_iconst (v := nI 0) C dd_Mo_meet_198 (kk := ?_)
                refine gx_zret C dd_Mo_meet_199 (by first | rfl | exact fb_nar) ?_
                rw [hN]
                exact ⟨_, _, _, rfl, mo_w_r hw1 hF2, mo_s_r hS1 hS2, rfl⟩
            · refine gx_aload_n C 5 dd_Mo_meet_163 (kk := ?_)
              refine mo_get C fd_Mo_32 dd_Mo_meet_164 (kk := ?_)
              refine gx_iload C 2 dd_Mo_meet_167 (kk := ?_)
              refine mo_l51 C dd_Mo_meet_169 (by omega) (kk := ?_)
              refine gx_topi _ hxa.2.2.1 ?_
              refine gx_aload_n C 5 dd_Mo_meet_170 (kk := ?_)
              refine mo_get C fd_Mo_35 dd_Mo_meet_171 (kk := ?_)
              refine gx_iload C 1 dd_Mo_meet_174 (kk := ?_)
              refine mo_l52 C dd_Mo_meet_176 (by omega) (kk := ?_)
              refine gx_topi _ hyb.2.2.2.1 ?_
              refine gx_aload_n C 5 dd_Mo_meet_177 (kk := ?_)
              refine mo_get C fd_Mo_38 dd_Mo_meet_178 (kk := ?_)
              refine gx_iload C 2 dd_Mo_meet_181 (kk := ?_)
              refine mo_l53 C dd_Mo_meet_183 (by omega) (kk := ?_)
              refine gx_topl _ hxa.2.2.2.2 ?_
              refine gx_aload_n C 5 dd_Mo_meet_184 (kk := ?_)
              refine mo_get C fd_Mo_38 dd_Mo_meet_185 (kk := ?_)
              refine gx_iload C 1 dd_Mo_meet_188 (kk := ?_)
              refine mo_l53 C dd_Mo_meet_190 (by omega) (kk := ?_)
              refine gx_topl _ hyb.2.2.2.2 ?_
              refine gx_ladd C dd_Mo_meet_191 (kk := ?_)
              refine gx_topl _ (lN_add _ _) ?_
              refine gx_callV C (ct_Mo_linkN (gx_l K) D dA ad h F1 L1 S1 _ _ _ _) me_Mo_link ml_Mo_111 mn_Mo_link _ (gx_w_at (by decide) mo_h_43) rfl dd_Mo_meet_192 (kk := fun v w hq => ?_)
              obtain ⟨rfl, rfl⟩ := hq
              · have hN : co_run k (co_both (am_ar A) (am_ar B) t.1 t.2.1 false) c = none := by
                  rw [hE, fm_d hy0, hg, List.singleton_append, List.cons_append]
                  exact mc_nofd hy
                refine gx_if_ne C 200 dd_Mo_meet_195 (fun h195 => absurd rfl h195) (fun h195 => ?_)
                refine gx_iconst (v := nI 0) C dd_Mo_meet_198 (kk := ?_)
                refine gx_zret C dd_Mo_meet_199 (by first | rfl | exact fb_nar) ?_
                rw [hN]
                exact ⟨_, _, _, rfl, hw1, hS1, rfl⟩
      exact inner (am_ar B).length 0 c1 F1 L1 S1 (by omega) (by rw [hE, fm_d hx]; rfl) hiv1 hw1 hS1
  refine gx_aload_n C 0 dd_Mo_meet_0 (kk := ?_)
  refine mo_get C fd_Mo_69 dd_Mo_meet_1 (kk := ?_)
  refine gx_iload_n C 3 dd_Mo_meet_4 (kk := ?_)
  refine mo_l63 C dd_Mo_meet_5 (by omega) (kk := ?_)
  refine gx_topi _ (hiv.2.1.2.1 k t hkt) ?_
  refine gx_bipush (v := nI 16) C dd_Mo_meet_6 (kk := ?_)
  refine gx_irem C dd_Mo_meet_8 (kk := ?_)
  refine gx_topi (nI t.1) (mc_p hto) ?_
  refine gx_istore C _ dd_Mo_meet_9 (kk := ?_)
  refine gx_aload_n C 1 dd_Mo_meet_11 (kk := ?_)
  refine mo_get C fd_Mo_69 dd_Mo_meet_12 (kk := ?_)
  refine gx_iload_n C 4 dd_Mo_meet_15 (kk := ?_)
  refine mo_l63 C dd_Mo_meet_16 (by omega) (kk := ?_)
  refine gx_topi _ (hiv.2.1.2.1 k t hkt) ?_
  refine gx_bipush (v := nI 16) C dd_Mo_meet_17 (kk := ?_)
  refine gx_idiv C dd_Mo_meet_19 (kk := ?_)
  refine gx_topi _ (mc_q1 hto) ?_
  refine gx_bipush (v := nI 16) C dd_Mo_meet_20 (kk := ?_)
  refine gx_irem C dd_Mo_meet_22 (kk := ?_)
  refine gx_topi (nI t.2.1) (mc_q2 hto) ?_
  refine gx_istore C _ dd_Mo_meet_23 (kk := ?_)
  refine gx_bipush (v := nI 65) C dd_Mo_meet_25 (kk := ?_)
  refine gx_iload_n C 3 dd_Mo_meet_27 (kk := ?_)
  refine gx_imul C dd_Mo_meet_28 (kk := ?_)
  refine gx_topi _ (pk_mul _ _) ?_
  refine gx_istore C _ dd_Mo_meet_29 (kk := ?_)
  refine gx_loc [0, 2, 1, 3, 4, 5, 6, 7] ?_
  exact outer (am_ar A).length 0 c F L S (by omega) (by rw [mm_both]; rfl) hiv mo_w_rf (fun _ _ => rfl)
set_option maxRecDepth 100000 in
set_option maxHeartbeats 4000000 in
theorem ct_Mo_aloneF (l : Launch) (D : va_G) (dA : Nat → ClassId) (ad : Nat → Nat) (h : Nat → va_E) (F : mo_F) (L : mo_L) (S : Nat → Int32) {ia : Nat} {A : am_T} (hia : ia < 4) (hA : mo_is F L ia A) (hAb : ∀ x ∈ am_ar A, x.1 < 16384 ∧ x.2 < 1000000001) {st : Option (Nat × Nat)} {c : co_S} {k : Nat} {t : co_t} (hiv : mc_iv F L S st c) (hkt : c.1[k]? = some t) : gx_Ct l D dA yy_Mo_alone cc_Mo_alone 9 (some .boolean) 3 0 0 [.ref (ad 43), .int (nI ia), .int (nI k), .int (nI 1)] (gx_w ad (mo_h dA ad h F L S)) (fun v w => ∃ F2 L2 S2, w = (gx_w ad (mo_h dA ad h F2 L2 S2)) ∧ mo_w F L F2 L2 ∧ (∀ k, k ≠ 27 → S2 k = S k) ∧ mc_r v F2 L2 S2 st (co_run k (co_first (am_ar A) t.1 t.2.1) c)) := by
  refine gx_of (by decide) (Nat.le_of_ble_eq_true rfl) (fun K C _ _ => ?_)
  have hto := hiv.2.1.2.2.1 t (List.mem_of_getElem? hkt)
  have hk16 : k < 16 := by
    have := (List.getElem?_eq_some_iff.mp hkt).1
    have := hiv.2.1.2.2.2
    omega
  obtain ⟨ht1, ht2, ht3⟩ := hto
  have hto : co_ok t := ⟨ht1, ht2, ht3⟩
  have hla := hA.2.2.2.2.2
  have outer : ∀ m i c1 F1 L1 S1, i + m = (am_ar A).length → co_run k (co_first (am_ar A) t.1 t.2.1) c = co_run k (((am_ar A).drop i).flatMap (mm_f t.1 t.2.1)) c1 → mc_iv F1 L1 S1 st c1 → mo_w F L F1 L1 → (∀ k, k ≠ 27 → S1 k = S k) → gx_G K D 9 0 0 31 [(6, .int (nI (65 * ia + i))), (4, .int (nI t.1)), (5, .int (nI t.2.1)), (0, .ref (ad 43)), (1, .int (nI ia)), (2, .int (nI k)), (3, .int (nI 1))] [] (gx_w ad (mo_h dA ad h F1 L1 S1)) (gx_Z K D dA 0 0 (fun v w => ∃ F2 L2 S2, w = (gx_w ad (mo_h dA ad h F2 L2 S2)) ∧ mo_w F L F2 L2 ∧ (∀ k, k ≠ 27 → S2 k = S k) ∧ mc_r v F2 L2 S2 st (co_run k (co_first (am_ar A) t.1 t.2.1) c))) := by
    intro m
    induction m with
    | zero =>
      intro i c1 F1 L1 S1 hi hE hiv1 hw1 hS1
      refine gx_iload C 0 dd_Mo_alone_31 (kk := ?_)
      refine gx_bipush (v := nI 65) C dd_Mo_alone_33 (kk := ?_)
      refine gx_iload_n C 4 dd_Mo_alone_35 (kk := ?_)
      refine gx_imul C dd_Mo_alone_36 (kk := ?_)
      refine gx_topi _ (pk_mul _ _) ?_
      refine gx_aload_n C 3 dd_Mo_alone_37 (kk := ?_)
      refine mo_get C fd_Mo_23 dd_Mo_alone_38 (kk := ?_)
      refine gx_iload_n C 4 dd_Mo_alone_41 (kk := ?_)
      refine mo_l48 C dd_Mo_alone_42 (by omega) (kk := ?_)
      refine gx_topi _ (mo_w_is hw1 hia hA).2.2.2.1 ?_
      refine gx_iadd C dd_Mo_alone_43 (kk := ?_)
      refine gx_topi _ (nI_add _ _) ?_
      refine gx_icmp_ge C 207 dd_Mo_alone_44 (fun h44 => ?_) (fun h44 => absurd (nI_le (a := 65 * ia + (am_ar A).length) (b := 65 * ia + i) (by omega) (by omega)) h44)
      refine gx_iconst (v := nI 1) C dd_Mo_alone_207 (kk := ?_)
      refine gx_zret C dd_Mo_alone_208 (by first | rfl | exact fb_nar) ?_
      rw [hE, fm_n (by omega)]
      exact ⟨_, _, _, rfl, hw1, hS1, rfl, hiv1⟩
    | succ m ih =>
      intro i c1 F1 L1 S1 hi hE hiv1 hw1 hS1
      obtain ⟨x, hx⟩ : ∃ x, (am_ar A)[i]? = some x := ⟨_, List.getElem?_eq_getElem (by omega)⟩
      have hxbb := hAb x (List.mem_of_getElem? hx)
      have hxa := (mo_w_is hw1 hia hA).2.2.2.2.1 i x hx
      refine gx_iload C 0 dd_Mo_alone_31 (kk := ?_)
      refine gx_bipush (v := nI 65) C dd_Mo_alone_33 (kk := ?_)
      refine gx_iload_n C 4 dd_Mo_alone_35 (kk := ?_)
      refine gx_imul C dd_Mo_alone_36 (kk := ?_)
      refine gx_topi _ (pk_mul _ _) ?_
      refine gx_aload_n C 3 dd_Mo_alone_37 (kk := ?_)
      refine mo_get C fd_Mo_23 dd_Mo_alone_38 (kk := ?_)
      refine gx_iload_n C 4 dd_Mo_alone_41 (kk := ?_)
      refine mo_l48 C dd_Mo_alone_42 (by omega) (kk := ?_)
      refine gx_topi _ (mo_w_is hw1 hia hA).2.2.2.1 ?_
      refine gx_iadd C dd_Mo_alone_43 (kk := ?_)
      refine gx_topi _ (nI_add _ _) ?_
      refine gx_icmp_ge C 207 dd_Mo_alone_44 (fun h44 => absurd h44 (nI_ge (by omega) (by omega))) (fun h44 => ?_)
      rcases (show ¬ x.1 / 1024 = t.1 ∨ (x.1 / 1024 = t.1 ∧ ¬ x.1 / 16 % 8 = 0) ∨ (x.1 / 1024 = t.1 ∧ x.1 / 16 % 8 = 0) by omega) with c1h | ⟨c1h, c2h⟩ | ⟨c1h, c2h⟩
      · have hg : mm_f t.1 t.2.1 x = [] := if_neg (fun cc => c1h cc.1)
        refine gx_iload_n C 6 dd_Mo_alone_47 (kk := ?_)
        refine gx_if_eq C 81 dd_Mo_alone_48 (fun h48 => absurd h48 (by decide)) (fun h48 => ?_)
        refine gx_aload_n C 3 dd_Mo_alone_51 (kk := ?_)
        refine mo_get C fd_Mo_26 dd_Mo_alone_52 (kk := ?_)
        refine gx_iload C 0 dd_Mo_alone_55 (kk := ?_)
        refine mo_l49 C dd_Mo_alone_57 (by omega) (kk := ?_)
        refine gx_topi _ hxa.1 ?_
        refine gx_iload C 1 dd_Mo_alone_58 (kk := ?_)
        refine gx_icmp_ne C 77 dd_Mo_alone_60 (fun h60 => ?_) (fun h60 => absurd ((nI_eq (by omega) (by omega)).mp h60) c1h)
        refine gx_iconst (v := nI 0) C dd_Mo_alone_77 (kk := ?_)
        refine gx_goto C 108 dd_Mo_alone_78 (kk := ?_)
        refine gx_istore C _ dd_Mo_alone_108 (kk := ?_)
        refine gx_iload C 0 dd_Mo_alone_110 (kk := ?_)
        refine gx_if_eq C 201 dd_Mo_alone_112 (fun h112 => ?_) (fun h112 => absurd rfl h112)
        refine gx_iinc C 1 (nI (65 * ia + (i + 1))) _ dd_Mo_alone_201 (nI_1 _) (kk := ?_)
        refine gx_goto C 31 dd_Mo_alone_204 (kk := ?_)
        refine gx_loc [0, 2, 3, 4, 5, 6, 7] ?_
        exact ih (i + 1) c1 F1 L1 S1 (by omega) (by rw [hE, fm_d hx, hg, List.nil_append]) hiv1 hw1 hS1
      · have hg : mm_f t.1 t.2.1 x = [] := if_neg (fun cc => c2h cc.2)
        refine gx_iload_n C 6 dd_Mo_alone_47 (kk := ?_)
        refine gx_if_eq C 81 dd_Mo_alone_48 (fun h48 => absurd h48 (by decide)) (fun h48 => ?_)
        refine gx_aload_n C 3 dd_Mo_alone_51 (kk := ?_)
        refine mo_get C fd_Mo_26 dd_Mo_alone_52 (kk := ?_)
        refine gx_iload C 0 dd_Mo_alone_55 (kk := ?_)
        refine mo_l49 C dd_Mo_alone_57 (by omega) (kk := ?_)
        refine gx_topi _ hxa.1 ?_
        refine gx_iload C 1 dd_Mo_alone_58 (kk := ?_)
        refine gx_icmp_ne C 77 dd_Mo_alone_60 (fun h60 => absurd (congrArg nI c1h) h60) (fun h60 => ?_)
        refine gx_aload_n C 3 dd_Mo_alone_63 (kk := ?_)
        refine mo_get C fd_Mo_35 dd_Mo_alone_64 (kk := ?_)
        refine gx_iload C 0 dd_Mo_alone_67 (kk := ?_)
        refine mo_l52 C dd_Mo_alone_69 (by omega) (kk := ?_)
        refine gx_topi _ hxa.2.2.2.1 ?_
        refine gx_if_ne C 77 dd_Mo_alone_70 (fun h70 => ?_) (fun h70 => absurd h70 (nI_ne0 (by omega) (by omega)))
        refine gx_iconst (v := nI 0) C dd_Mo_alone_77 (kk := ?_)
        refine gx_goto C 108 dd_Mo_alone_78 (kk := ?_)
        refine gx_istore C _ dd_Mo_alone_108 (kk := ?_)
        refine gx_iload C 0 dd_Mo_alone_110 (kk := ?_)
        refine gx_if_eq C 201 dd_Mo_alone_112 (fun h112 => ?_) (fun h112 => absurd rfl h112)
        refine gx_iinc C 1 (nI (65 * ia + (i + 1))) _ dd_Mo_alone_201 (nI_1 _) (kk := ?_)
        refine gx_goto C 31 dd_Mo_alone_204 (kk := ?_)
        refine gx_loc [0, 2, 3, 4, 5, 6, 7] ?_
        exact ih (i + 1) c1 F1 L1 S1 (by omega) (by rw [hE, fm_d hx, hg, List.nil_append]) hiv1 hw1 hS1
      · have hg : mm_f t.1 t.2.1 x = [(8 * (x.1 / 128 % 8) + 0, x.2, x.1 % 16, t.2.1, 1)] := if_pos ⟨c1h, c2h⟩
        refine gx_iload_n C 6 dd_Mo_alone_47 (kk := ?_)
        refine gx_if_eq C 81 dd_Mo_alone_48 (fun h48 => absurd h48 (by decide)) (fun h48 => ?_)
        refine gx_aload_n C 3 dd_Mo_alone_51 (kk := ?_)
        refine mo_get C fd_Mo_26 dd_Mo_alone_52 (kk := ?_)
        refine gx_iload C 0 dd_Mo_alone_55 (kk := ?_)
        refine mo_l49 C dd_Mo_alone_57 (by omega) (kk := ?_)
        refine gx_topi _ hxa.1 ?_
        refine gx_iload C 1 dd_Mo_alone_58 (kk := ?_)
        refine gx_icmp_ne C 77 dd_Mo_alone_60 (fun h60 => absurd (congrArg nI c1h) h60) (fun h60 => ?_)
        refine gx_aload_n C 3 dd_Mo_alone_63 (kk := ?_)
        refine mo_get C fd_Mo_35 dd_Mo_alone_64 (kk := ?_)
        refine gx_iload C 0 dd_Mo_alone_67 (kk := ?_)
        refine mo_l52 C dd_Mo_alone_69 (by omega) (kk := ?_)
        refine gx_topi _ hxa.2.2.2.1 ?_
        refine gx_if_ne C 77 dd_Mo_alone_70 (fun h70 => absurd (show nI (x.1 / 16 % 8) = 0 by rw [c2h]; rfl) h70) (fun h70 => ?_)
        refine gx_iconst (v := nI 1) C dd_Mo_alone_73 (kk := ?_)
        refine gx_goto C 108 dd_Mo_alone_74 (kk := ?_)
        refine gx_istore C _ dd_Mo_alone_108 (kk := ?_)
        refine gx_iload C 0 dd_Mo_alone_110 (kk := ?_)
        refine gx_if_eq C 201 dd_Mo_alone_112 (fun h112 => absurd h112 (by decide)) (fun h112 => ?_)
        refine gx_iload_n C 7 dd_Mo_alone_115 (kk := ?_)
        refine gx_if_eq C 136 dd_Mo_alone_116 (fun h116 => absurd h116 (by decide)) (fun h116 => ?_)
        refine gx_aload_n C 4 dd_Mo_alone_119 (kk := ?_)
        refine gx_aload_n C 4 dd_Mo_alone_120 (kk := ?_)
        refine mo_get C fd_Mo_29 dd_Mo_alone_121 (kk := ?_)
        refine gx_iload C 1 dd_Mo_alone_124 (kk := ?_)
        refine mo_l50 C dd_Mo_alone_126 (by omega) (kk := ?_)
        refine gx_topi _ hxa.2.1 ?_
        refine gx_iload C 3 dd_Mo_alone_127 (kk := ?_)
        refine gx_iconst (v := nI 1) C dd_Mo_alone_129 (kk := ?_)
        refine gx_callV C (ct_Mo_reach (gx_l K) D dA ad h F1 L1 S1 (T := c1.1) (t := (x.1 % 16, t.2.1, 1)) hiv1.2.1 ⟨by show x.1 % 16 < 16; omega, by show t.2.1 < 16; omega, by show 1 < 3; decide⟩) me_Mo_reach ml_Mo_107 mn_Mo_reach _ (gx_w_at (by decide) mo_h_43) rfl dd_Mo_alone_130 (kk := fun v w hq => ?_)
        rcases hq with ⟨y, hy, rfl, F2, S2, rfl, hmt2, hy16, hF2, hS2⟩ | ⟨hy, rfl, rfl⟩
        · have hk2 : ∀ k, k < 57 → F2 k = F1 k := fun k hk => hF2 k (by omega)
          have hxa := (mo_w_is (mo_w_r hw1 hF2) hia hA).2.2.2.2.1 i x hx
          refine gx_goto C 150 dd_Mo_alone_133 (kk := ?_)
          refine gx_istore C _ dd_Mo_alone_150 (kk := ?_)
          refine gx_aload_n C 5 dd_Mo_alone_152 (kk := ?_)
          refine gx_iload_n C 7 dd_Mo_alone_153 (kk := ?_)
          refine gx_iload C 0 dd_Mo_alone_154 (kk := ?_)
          refine gx_iload_n C 8 dd_Mo_alone_156 (kk := ?_)
          refine gx_if_eq C 170 dd_Mo_alone_157 (fun h157 => absurd h157 (by decide)) (fun h157 => ?_)
          refine gx_aload_n C 5 dd_Mo_alone_160 (kk := ?_)
          refine mo_get C fd_Mo_32 dd_Mo_alone_161 (kk := ?_)
          refine gx_iload C 2 dd_Mo_alone_164 (kk := ?_)
          refine mo_l51 C dd_Mo_alone_166 (by omega) (kk := ?_)
          refine gx_topi _ hxa.2.2.1 ?_
          refine gx_goto C 171 dd_Mo_alone_167 (kk := ?_)
          refine gx_iload_n C 8 dd_Mo_alone_171 (kk := ?_)
          refine gx_if_eq C 179 dd_Mo_alone_172 (fun h172 => absurd h172 (by decide)) (fun h172 => ?_)
          refine gx_iconst (v := nI 0) C dd_Mo_alone_175 (kk := ?_)
          refine gx_goto C 186 dd_Mo_alone_176 (kk := ?_)
          refine gx_aload_n C 5 dd_Mo_alone_186 (kk := ?_)
          refine mo_get C fd_Mo_38 dd_Mo_alone_187 (kk := ?_)
          refine gx_iload C 2 dd_Mo_alone_190 (kk := ?_)
          refine mo_l53 C dd_Mo_alone_192 (by omega) (kk := ?_)
          refine gx_topl _ hxa.2.2.2.2 ?_
          refine gx_callV C (ct_Mo_linkP (gx_l K) D dA ad h F2 L1 S2 (f := k) (t := y.1) (i := x.1 / 128 % 8) (o := 0) (x0 := x.2) (B := 4000000000) (a := (0, st, (fun _ => none), c1.2)) (mo_is_k hk2 (fun _ _ => rfl) hiv1.1) hiv1.2.2.1 (fun z hz => (hiv1.2.2.2 z hz).1) (fun z hz => (hiv1.2.2.2 z hz).2) (by decide) hk16 hy16 (by omega) (by omega) (by omega)) me_Mo_link ml_Mo_111 mn_Mo_link _ (gx_w_at (by decide) mo_h_43) rfl dd_Mo_alone_193 (kk := fun v w hq => ?_)
          rcases hq with ⟨hr3, rfl, F3, L3, rfl, hM3, hf3⟩ | ⟨hr3, rfl, rfl⟩
          · have hC : co_run k (co_first (am_ar A) t.1 t.2.1) c = co_run k (((am_ar A).drop (i + 1)).flatMap (mm_f t.1 t.2.1)) (y.2, am_in (pr_k k (x.1 / 128 % 8) (0) y.1) x.2 c1.2) := by
              rw [hE, fm_d hx, hg, List.singleton_append]
              exact mc_cons hy hr3
            refine gx_if_ne C 201 dd_Mo_alone_196 (fun h196 => ?_) (fun h196 => absurd h196 (by decide))
            refine gx_iinc C 2 (nI (65 * ia + (i + 1))) _ dd_Mo_alone_201 (nI_1 _) (kk := ?_)
            refine gx_goto C 31 dd_Mo_alone_204 (kk := ?_)
            refine gx_loc [0, 3, 4, 5, 6, 7, 8] ?_
            exact ih (i + 1) _ F3 L3 S2 (by omega) hC (mc_step hiv1 hmt2 hM3 hf3 (by unfold pr_k; omega) (by omega)) (mo_w_tr (mo_w_r hw1 hF2) (mo_w_fr hf3)) (mo_s_r hS1 hS2)
          · have hN : co_run k (co_first (am_ar A) t.1 t.2.1) c = none := by
              rw [hE, fm_d hx, hg, List.singleton_append]
              exact mc_norm hy hr3
            refine gx_if_ne C 201 dd_Mo_alone_196 (fun h196 => absurd rfl h196) (fun h196 => ?_)
            refine gx_iconst (v := nI 0) C dd_Mo_alone_199 (kk := ?_)
            refine gx_zret C dd_Mo_alone_200 (by first | rfl | exact fb_nar) ?_
            rw [hN]
            exact ⟨_, _, _, rfl, mo_w_r hw1 hF2, mo_s_r hS1 hS2, rfl⟩
        · refine gx_goto C 150 dd_Mo_alone_133 (kk := ?_)
          refine gx_istore C _ dd_Mo_alone_150 (kk := ?_)
          refine gx_aload_n C 5 dd_Mo_alone_152 (kk := ?_)
          refine gx_iload_n C 7 dd_Mo_alone_153 (kk := ?_)
          refine gx_iload C 0 dd_Mo_alone_154 (kk := ?_)
          refine gx_iload_n C 8 dd_Mo_alone_156 (kk := ?_)
          refine gx_if_eq C 170 dd_Mo_alone_157 (fun h157 => absurd h157 (by decide)) (fun h157 => ?_)
          refine gx_aload_n C 5 dd_Mo_alone_160 (kk := ?_)
          refine mo_get C fd_Mo_32 dd_Mo_alone_161 (kk := ?_)
          refine gx_iload C 2 dd_Mo_alone_164 (kk := ?_)
          refine mo_l51 C dd_Mo_alone_166 (by omega) (kk := ?_)
          refine gx_topi _ hxa.2.2.1 ?_
          refine gx_goto C 171 dd_Mo_alone_167 (kk := ?_)
          refine gx_iload_n C 8 dd_Mo_alone_171 (kk := ?_)
          refine gx_if_eq C 179 dd_Mo_alone_172 (fun h172 => absurd h172 (by decide)) (fun h172 => ?_)
          refine gx_iconst (v := nI 0) C dd_Mo_alone_175 (kk := ?_)
          refine gx_goto C 186 dd_Mo_alone_176 (kk := ?_)
          refine gx_aload_n C 5 dd_Mo_alone_186 (kk := ?_)
          refine mo_get C fd_Mo_38 dd_Mo_alone_187 (kk := ?_)
          refine gx_iload C 2 dd_Mo_alone_190 (kk := ?_)
          refine mo_l53 C dd_Mo_alone_192 (by omega) (kk := ?_)
          refine gx_topl _ hxa.2.2.2.2 ?_
          refine gx_callV C (ct_Mo_linkN (gx_l K) D dA ad h F1 L1 S1 _ _ _ _) me_Mo_link ml_Mo_111 mn_Mo_link _ (gx_w_at (by decide) mo_h_43) rfl dd_Mo_alone_193 (kk := fun v w hq => ?_)
          obtain ⟨rfl, rfl⟩ := hq
          · have hN : co_run k (co_first (am_ar A) t.1 t.2.1) c = none := by
              rw [hE, fm_d hx, hg, List.singleton_append]
              exact mc_nofd hy
            refine gx_if_ne C 201 dd_Mo_alone_196 (fun h196 => absurd rfl h196) (fun h196 => ?_)
            refine gx_iconst (v := nI 0) C dd_Mo_alone_199 (kk := ?_)
            refine gx_zret C dd_Mo_alone_200 (by first | rfl | exact fb_nar) ?_
            rw [hN]
            exact ⟨_, _, _, rfl, hw1, hS1, rfl⟩
  refine gx_aload_n C 0 dd_Mo_alone_0 (kk := ?_)
  refine mo_get C fd_Mo_69 dd_Mo_alone_1 (kk := ?_)
  refine gx_iload_n C 2 dd_Mo_alone_4 (kk := ?_)
  refine mo_l63 C dd_Mo_alone_5 (by omega) (kk := ?_)
  refine gx_topi _ (hiv.2.1.2.1 k t hkt) ?_
  refine gx_bipush (v := nI 16) C dd_Mo_alone_6 (kk := ?_)
  refine gx_irem C dd_Mo_alone_8 (kk := ?_)
  refine gx_topi (nI t.1) (mc_p hto) ?_
  refine gx_istore C _ dd_Mo_alone_9 (kk := ?_)
  refine gx_aload_n C 1 dd_Mo_alone_11 (kk := ?_)
  refine mo_get C fd_Mo_69 dd_Mo_alone_12 (kk := ?_)
  refine gx_iload_n C 3 dd_Mo_alone_15 (kk := ?_)
  refine mo_l63 C dd_Mo_alone_16 (by omega) (kk := ?_)
  refine gx_topi _ (hiv.2.1.2.1 k t hkt) ?_
  refine gx_bipush (v := nI 16) C dd_Mo_alone_17 (kk := ?_)
  refine gx_idiv C dd_Mo_alone_19 (kk := ?_)
  refine gx_topi _ (mc_q1 hto) ?_
  refine gx_bipush (v := nI 16) C dd_Mo_alone_20 (kk := ?_)
  refine gx_irem C dd_Mo_alone_22 (kk := ?_)
  refine gx_topi (nI t.2.1) (mc_q2 hto) ?_
  refine gx_istore C _ dd_Mo_alone_23 (kk := ?_)
  refine gx_bipush (v := nI 65) C dd_Mo_alone_25 (kk := ?_)
  refine gx_iload_n C 3 dd_Mo_alone_27 (kk := ?_)
  refine gx_imul C dd_Mo_alone_28 (kk := ?_)
  refine gx_topi _ (pk_mul _ _) ?_
  refine gx_istore C _ dd_Mo_alone_29 (kk := ?_)
  refine gx_loc [0, 2, 1, 3, 4, 5, 6] ?_
  exact outer (am_ar A).length 0 c F L S (by omega) (by rw [mm_first]; rfl) hiv mo_w_rf (fun _ _ => rfl)
set_option maxRecDepth 100000 in
set_option maxHeartbeats 4000000 in
theorem ct_Mo_aloneS (l : Launch) (D : va_G) (dA : Nat → ClassId) (ad : Nat → Nat) (h : Nat → va_E) (F : mo_F) (L : mo_L) (S : Nat → Int32) {ia : Nat} {A : am_T} (hia : ia < 4) (hA : mo_is F L ia A) (hAb : ∀ x ∈ am_ar A, x.1 < 16384 ∧ x.2 < 1000000001) {st : Option (Nat × Nat)} {c : co_S} {k : Nat} {t : co_t} (hiv : mc_iv F L S st c) (hkt : c.1[k]? = some t) : gx_Ct l D dA yy_Mo_alone cc_Mo_alone 9 (some .boolean) 3 0 0 [.ref (ad 43), .int (nI ia), .int (nI k), .int (nI 0)] (gx_w ad (mo_h dA ad h F L S)) (fun v w => ∃ F2 L2 S2, w = (gx_w ad (mo_h dA ad h F2 L2 S2)) ∧ mo_w F L F2 L2 ∧ (∀ k, k ≠ 27 → S2 k = S k) ∧ mc_r v F2 L2 S2 st (co_run k (co_second (am_ar A) t.1 t.2.1) c)) := by
  refine gx_of (by decide) (Nat.le_of_ble_eq_true rfl) (fun K C _ _ => ?_)
  have hto := hiv.2.1.2.2.1 t (List.mem_of_getElem? hkt)
  have hk16 : k < 16 := by
    have := (List.getElem?_eq_some_iff.mp hkt).1
    have := hiv.2.1.2.2.2
    omega
  obtain ⟨ht1, ht2, ht3⟩ := hto
  have hto : co_ok t := ⟨ht1, ht2, ht3⟩
  have hla := hA.2.2.2.2.2
  have outer : ∀ m i c1 F1 L1 S1, i + m = (am_ar A).length → co_run k (co_second (am_ar A) t.1 t.2.1) c = co_run k (((am_ar A).drop i).flatMap (mm_s t.1 t.2.1)) c1 → mc_iv F1 L1 S1 st c1 → mo_w F L F1 L1 → (∀ k, k ≠ 27 → S1 k = S k) → gx_G K D 9 0 0 31 [(6, .int (nI (65 * ia + i))), (4, .int (nI t.1)), (5, .int (nI t.2.1)), (0, .ref (ad 43)), (1, .int (nI ia)), (2, .int (nI k)), (3, .int (nI 0))] [] (gx_w ad (mo_h dA ad h F1 L1 S1)) (gx_Z K D dA 0 0 (fun v w => ∃ F2 L2 S2, w = (gx_w ad (mo_h dA ad h F2 L2 S2)) ∧ mo_w F L F2 L2 ∧ (∀ k, k ≠ 27 → S2 k = S k) ∧ mc_r v F2 L2 S2 st (co_run k (co_second (am_ar A) t.1 t.2.1) c))) := by
    intro m
    induction m with
    | zero =>
      intro i c1 F1 L1 S1 hi hE hiv1 hw1 hS1
      refine gx_iload C 0 dd_Mo_alone_31 (kk := ?_)
      refine gx_bipush (v := nI 65) C dd_Mo_alone_33 (kk := ?_)
      refine gx_iload_n C 4 dd_Mo_alone_35 (kk := ?_)
      refine gx_imul C dd_Mo_alone_36 (kk := ?_)
      refine gx_topi _ (pk_mul _ _) ?_
      refine gx_aload_n C 3 dd_Mo_alone_37 (kk := ?_)
      refine mo_get C fd_Mo_23 dd_Mo_alone_38 (kk := ?_)
      refine gx_iload_n C 4 dd_Mo_alone_41 (kk := ?_)
      refine mo_l48 C dd_Mo_alone_42 (by omega) (kk := ?_)
      refine gx_topi _ (mo_w_is hw1 hia hA).2.2.2.1 ?_
      refine gx_iadd C dd_Mo_alone_43 (kk := ?_)
      refine gx_topi _ (nI_add _ _) ?_
      refine gx_icmp_ge C 207 dd_Mo_alone_44 (fun h44 => ?_) (fun h44 => absurd (nI_le (a := 65 * ia + (am_ar A).length) (b := 65 * ia + i) (by omega) (by omega)) h44)
      refine gx_iconst (v := nI 1) C dd_Mo_alone_207 (kk := ?_)
      refine gx_zret C dd_Mo_alone_208 (by first | rfl | exact fb_nar) ?_
      rw [hE, fm_n (by omega)]
      exact ⟨_, _, _, rfl, hw1, hS1, rfl, hiv1⟩
    | succ m ih =>
      intro i c1 F1 L1 S1 hi hE hiv1 hw1 hS1
      obtain ⟨x, hx⟩ : ∃ x, (am_ar A)[i]? = some x := ⟨_, List.getElem?_eq_getElem (by omega)⟩
      have hxbb := hAb x (List.mem_of_getElem? hx)
      have hxa := (mo_w_is hw1 hia hA).2.2.2.2.1 i x hx
      refine gx_iload C 0 dd_Mo_alone_31 (kk := ?_)
      refine gx_bipush (v := nI 65) C dd_Mo_alone_33 (kk := ?_)
      refine gx_iload_n C 4 dd_Mo_alone_35 (kk := ?_)
      refine gx_imul C dd_Mo_alone_36 (kk := ?_)
      refine gx_topi _ (pk_mul _ _) ?_
      refine gx_aload_n C 3 dd_Mo_alone_37 (kk := ?_)
      refine mo_get C fd_Mo_23 dd_Mo_alone_38 (kk := ?_)
      refine gx_iload_n C 4 dd_Mo_alone_41 (kk := ?_)
      refine mo_l48 C dd_Mo_alone_42 (by omega) (kk := ?_)
      refine gx_topi _ (mo_w_is hw1 hia hA).2.2.2.1 ?_
      refine gx_iadd C dd_Mo_alone_43 (kk := ?_)
      refine gx_topi _ (nI_add _ _) ?_
      refine gx_icmp_ge C 207 dd_Mo_alone_44 (fun h44 => absurd h44 (nI_ge (by omega) (by omega))) (fun h44 => ?_)
      rcases (show ¬ x.1 / 1024 = t.2.1 ∨ (x.1 / 1024 = t.2.1 ∧ ¬ x.1 / 128 % 8 = 0) ∨ (x.1 / 1024 = t.2.1 ∧ x.1 / 128 % 8 = 0) by omega) with c1h | ⟨c1h, c2h⟩ | ⟨c1h, c2h⟩
      · have hg : mm_s t.1 t.2.1 x = [] := if_neg (fun cc => c1h cc.1)
        refine gx_iload_n C 6 dd_Mo_alone_47 (kk := ?_)
        refine gx_if_eq C 81 dd_Mo_alone_48 (fun h48 => ?_) (fun h48 => absurd rfl h48)
        refine gx_aload_n C 3 dd_Mo_alone_81 (kk := ?_)
        refine mo_get C fd_Mo_26 dd_Mo_alone_82 (kk := ?_)
        refine gx_iload C 0 dd_Mo_alone_85 (kk := ?_)
        refine mo_l49 C dd_Mo_alone_87 (by omega) (kk := ?_)
        refine gx_topi _ hxa.1 ?_
        refine gx_iload C 2 dd_Mo_alone_88 (kk := ?_)
        refine gx_icmp_ne C 107 dd_Mo_alone_90 (fun h90 => ?_) (fun h90 => absurd ((nI_eq (by omega) (by omega)).mp h90) c1h)
        refine gx_iconst (v := nI 0) C dd_Mo_alone_107 (kk := ?_)
        refine gx_istore C _ dd_Mo_alone_108 (kk := ?_)
        refine gx_iload C 0 dd_Mo_alone_110 (kk := ?_)
        refine gx_if_eq C 201 dd_Mo_alone_112 (fun h112 => ?_) (fun h112 => absurd rfl h112)
        refine gx_iinc C 1 (nI (65 * ia + (i + 1))) _ dd_Mo_alone_201 (nI_1 _) (kk := ?_)
        refine gx_goto C 31 dd_Mo_alone_204 (kk := ?_)
        refine gx_loc [0, 2, 3, 4, 5, 6, 7] ?_
        exact ih (i + 1) c1 F1 L1 S1 (by omega) (by rw [hE, fm_d hx, hg, List.nil_append]) hiv1 hw1 hS1
      · have hg : mm_s t.1 t.2.1 x = [] := if_neg (fun cc => c2h cc.2)
        refine gx_iload_n C 6 dd_Mo_alone_47 (kk := ?_)
        refine gx_if_eq C 81 dd_Mo_alone_48 (fun h48 => ?_) (fun h48 => absurd rfl h48)
        refine gx_aload_n C 3 dd_Mo_alone_81 (kk := ?_)
        refine mo_get C fd_Mo_26 dd_Mo_alone_82 (kk := ?_)
        refine gx_iload C 0 dd_Mo_alone_85 (kk := ?_)
        refine mo_l49 C dd_Mo_alone_87 (by omega) (kk := ?_)
        refine gx_topi _ hxa.1 ?_
        refine gx_iload C 2 dd_Mo_alone_88 (kk := ?_)
        refine gx_icmp_ne C 107 dd_Mo_alone_90 (fun h90 => absurd (congrArg nI c1h) h90) (fun h90 => ?_)
        refine gx_aload_n C 3 dd_Mo_alone_93 (kk := ?_)
        refine mo_get C fd_Mo_32 dd_Mo_alone_94 (kk := ?_)
        refine gx_iload C 0 dd_Mo_alone_97 (kk := ?_)
        refine mo_l51 C dd_Mo_alone_99 (by omega) (kk := ?_)
        refine gx_topi _ hxa.2.2.1 ?_
        refine gx_if_ne C 107 dd_Mo_alone_100 (fun h100 => ?_) (fun h100 => absurd h100 (nI_ne0 (by omega) (by omega)))
        refine gx_iconst (v := nI 0) C dd_Mo_alone_107 (kk := ?_)
        refine gx_istore C _ dd_Mo_alone_108 (kk := ?_)
        refine gx_iload C 0 dd_Mo_alone_110 (kk := ?_)
        refine gx_if_eq C 201 dd_Mo_alone_112 (fun h112 => ?_) (fun h112 => absurd rfl h112)
        refine gx_iinc C 1 (nI (65 * ia + (i + 1))) _ dd_Mo_alone_201 (nI_1 _) (kk := ?_)
        refine gx_goto C 31 dd_Mo_alone_204 (kk := ?_)
        refine gx_loc [0, 2, 3, 4, 5, 6, 7] ?_
        exact ih (i + 1) c1 F1 L1 S1 (by omega) (by rw [hE, fm_d hx, hg, List.nil_append]) hiv1 hw1 hS1
      · have hg : mm_s t.1 t.2.1 x = [(co_s1 t.1 x)] := if_pos ⟨c1h, c2h⟩
        refine gx_iload_n C 6 dd_Mo_alone_47 (kk := ?_)
        refine gx_if_eq C 81 dd_Mo_alone_48 (fun h48 => ?_) (fun h48 => absurd rfl h48)
        refine gx_aload_n C 3 dd_Mo_alone_81 (kk := ?_)
        refine mo_get C fd_Mo_26 dd_Mo_alone_82 (kk := ?_)
        refine gx_iload C 0 dd_Mo_alone_85 (kk := ?_)
        refine mo_l49 C dd_Mo_alone_87 (by omega) (kk := ?_)
        refine gx_topi _ hxa.1 ?_
        refine gx_iload C 2 dd_Mo_alone_88 (kk := ?_)
        refine gx_icmp_ne C 107 dd_Mo_alone_90 (fun h90 => absurd (congrArg nI c1h) h90) (fun h90 => ?_)
        refine gx_aload_n C 3 dd_Mo_alone_93 (kk := ?_)
        refine mo_get C fd_Mo_32 dd_Mo_alone_94 (kk := ?_)
        refine gx_iload C 0 dd_Mo_alone_97 (kk := ?_)
        refine mo_l51 C dd_Mo_alone_99 (by omega) (kk := ?_)
        refine gx_topi _ hxa.2.2.1 ?_
        refine gx_if_ne C 107 dd_Mo_alone_100 (fun h100 => absurd (show nI (x.1 / 128 % 8) = 0 by rw [c2h]; rfl) h100) (fun h100 => ?_)
        refine gx_iconst (v := nI 1) C dd_Mo_alone_103 (kk := ?_)
        refine gx_goto C 108 dd_Mo_alone_104 (kk := ?_)
        refine gx_istore C _ dd_Mo_alone_108 (kk := ?_)
        refine gx_iload C 0 dd_Mo_alone_110 (kk := ?_)
        refine gx_if_eq C 201 dd_Mo_alone_112 (fun h112 => absurd h112 (by decide)) (fun h112 => ?_)
        refine gx_iload_n C 7 dd_Mo_alone_115 (kk := ?_)
        refine gx_if_eq C 136 dd_Mo_alone_116 (fun h116 => ?_) (fun h116 => absurd rfl h116)
        refine gx_aload_n C 4 dd_Mo_alone_136 (kk := ?_)
        refine gx_iload C 2 dd_Mo_alone_137 (kk := ?_)
        refine gx_aload_n C 4 dd_Mo_alone_139 (kk := ?_)
        refine mo_get C fd_Mo_29 dd_Mo_alone_140 (kk := ?_)
        refine gx_iload C 1 dd_Mo_alone_143 (kk := ?_)
        refine mo_l50 C dd_Mo_alone_145 (by omega) (kk := ?_)
        refine gx_topi _ hxa.2.1 ?_
        refine gx_iconst (v := nI 2) C dd_Mo_alone_146 (kk := ?_)
        refine gx_callV C (ct_Mo_reach (gx_l K) D dA ad h F1 L1 S1 (T := c1.1) (t := (t.1, x.1 % 16, 2)) hiv1.2.1 ⟨by show t.1 < 16; omega, by show x.1 % 16 < 16; omega, by show 2 < 3; decide⟩) me_Mo_reach ml_Mo_107 mn_Mo_reach _ (gx_w_at (by decide) mo_h_43) rfl dd_Mo_alone_147 (kk := fun v w hq => ?_)
        rcases hq with ⟨y, hy, rfl, F2, S2, rfl, hmt2, hy16, hF2, hS2⟩ | ⟨hy, rfl, rfl⟩
        · have hk2 : ∀ k, k < 57 → F2 k = F1 k := fun k hk => hF2 k (by omega)
          have hxa := (mo_w_is (mo_w_r hw1 hF2) hia hA).2.2.2.2.1 i x hx
          refine gx_istore C _ dd_Mo_alone_150 (kk := ?_)
          refine gx_aload_n C 5 dd_Mo_alone_152 (kk := ?_)
          refine gx_iload_n C 7 dd_Mo_alone_153 (kk := ?_)
          refine gx_iload C 0 dd_Mo_alone_154 (kk := ?_)
          refine gx_iload_n C 8 dd_Mo_alone_156 (kk := ?_)
          refine gx_if_eq C 170 dd_Mo_alone_157 (fun h157 => ?_) (fun h157 => absurd rfl h157)
          refine gx_iconst (v := nI 0) C dd_Mo_alone_170 (kk := ?_)
          refine gx_iload_n C 8 dd_Mo_alone_171 (kk := ?_)
          refine gx_if_eq C 179 dd_Mo_alone_172 (fun h172 => ?_) (fun h172 => absurd rfl h172)
          refine gx_aload_n C 5 dd_Mo_alone_179 (kk := ?_)
          refine mo_get C fd_Mo_35 dd_Mo_alone_180 (kk := ?_)
          refine gx_iload C 2 dd_Mo_alone_183 (kk := ?_)
          refine mo_l52 C dd_Mo_alone_185 (by omega) (kk := ?_)
          refine gx_topi _ hxa.2.2.2.1 ?_
          refine gx_aload_n C 5 dd_Mo_alone_186 (kk := ?_)
          refine mo_get C fd_Mo_38 dd_Mo_alone_187 (kk := ?_)
          refine gx_iload C 2 dd_Mo_alone_190 (kk := ?_)
          refine mo_l53 C dd_Mo_alone_192 (by omega) (kk := ?_)
          refine gx_topl _ hxa.2.2.2.2 ?_
          refine gx_callV C (ct_Mo_linkP (gx_l K) D dA ad h F2 L1 S2 (f := k) (t := y.1) (i := 0) (o := x.1 / 16 % 8) (x0 := x.2) (B := 4000000000) (a := (0, st, (fun _ => none), c1.2)) (mo_is_k hk2 (fun _ _ => rfl) hiv1.1) hiv1.2.2.1 (fun z hz => (hiv1.2.2.2 z hz).1) (fun z hz => (hiv1.2.2.2 z hz).2) (by decide) hk16 hy16 (by omega) (by omega) (by omega)) me_Mo_link ml_Mo_111 mn_Mo_link _ (gx_w_at (by decide) mo_h_43) rfl dd_Mo_alone_193 (kk := fun v w hq => ?_)
          rcases hq with ⟨hr3, rfl, F3, L3, rfl, hM3, hf3⟩ | ⟨hr3, rfl, rfl⟩
          · have hC : co_run k (co_second (am_ar A) t.1 t.2.1) c = co_run k (((am_ar A).drop (i + 1)).flatMap (mm_s t.1 t.2.1)) (y.2, am_in (pr_k k (0) (x.1 / 16 % 8) y.1) x.2 c1.2) := by
              rw [hE, fm_d hx, hg, List.singleton_append]
              exact mc_cons hy hr3
            refine gx_if_ne C 201 dd_Mo_alone_196 (fun h196 => ?_) (fun h196 => absurd h196 (by decide))
            refine gx_iinc C 2 (nI (65 * ia + (i + 1))) _ dd_Mo_alone_201 (nI_1 _) (kk := ?_)
            refine gx_goto C 31 dd_Mo_alone_204 (kk := ?_)
            refine gx_loc [0, 3, 4, 5, 6, 7, 8] ?_
            exact ih (i + 1) _ F3 L3 S2 (by omega) hC (mc_step hiv1 hmt2 hM3 hf3 (by unfold pr_k; omega) (by omega)) (mo_w_tr (mo_w_r hw1 hF2) (mo_w_fr hf3)) (mo_s_r hS1 hS2)
          · have hN : co_run k (co_second (am_ar A) t.1 t.2.1) c = none := by
              rw [hE, fm_d hx, hg, List.singleton_append]
              exact mc_norm hy hr3
            refine gx_if_ne C 201 dd_Mo_alone_196 (fun h196 => absurd rfl h196) (fun h196 => ?_)
            refine gx_iconst (v := nI 0) C dd_Mo_alone_199 (kk := ?_)
            refine gx_zret C dd_Mo_alone_200 (by first | rfl | exact fb_nar) ?_
            rw [hN]
            exact ⟨_, _, _, rfl, mo_w_r hw1 hF2, mo_s_r hS1 hS2, rfl⟩
        · refine gx_istore C _ dd_Mo_alone_150 (kk := ?_)
          refine gx_aload_n C 5 dd_Mo_alone_152 (kk := ?_)
          refine gx_iload_n C 7 dd_Mo_alone_153 (kk := ?_)
          refine gx_iload C 0 dd_Mo_alone_154 (kk := ?_)
          refine gx_iload_n C 8 dd_Mo_alone_156 (kk := ?_)
          refine gx_if_eq C 170 dd_Mo_alone_157 (fun h157 => ?_) (fun h157 => absurd rfl h157)
          refine gx_iconst (v := nI 0) C dd_Mo_alone_170 (kk := ?_)
          refine gx_iload_n C 8 dd_Mo_alone_171 (kk := ?_)
          refine gx_if_eq C 179 dd_Mo_alone_172 (fun h172 => ?_) (fun h172 => absurd rfl h172)
          refine gx_aload_n C 5 dd_Mo_alone_179 (kk := ?_)
          refine mo_get C fd_Mo_35 dd_Mo_alone_180 (kk := ?_)
          refine gx_iload C 2 dd_Mo_alone_183 (kk := ?_)
          refine mo_l52 C dd_Mo_alone_185 (by omega) (kk := ?_)
          refine gx_topi _ hxa.2.2.2.1 ?_
          refine gx_aload_n C 5 dd_Mo_alone_186 (kk := ?_)
          refine mo_get C fd_Mo_38 dd_Mo_alone_187 (kk := ?_)
          refine gx_iload C 2 dd_Mo_alone_190 (kk := ?_)
          refine mo_l53 C dd_Mo_alone_192 (by omega) (kk := ?_)
          refine gx_topl _ hxa.2.2.2.2 ?_
          refine gx_callV C (ct_Mo_linkN (gx_l K) D dA ad h F1 L1 S1 _ _ _ _) me_Mo_link ml_Mo_111 mn_Mo_link _ (gx_w_at (by decide) mo_h_43) rfl dd_Mo_alone_193 (kk := fun v w hq => ?_)
          obtain ⟨rfl, rfl⟩ := hq
          · have hN : co_run k (co_second (am_ar A) t.1 t.2.1) c = none := by
              rw [hE, fm_d hx, hg, List.singleton_append]
              exact mc_nofd hy
            refine gx_if_ne C 201 dd_Mo_alone_196 (fun h196 => absurd rfl h196) (fun h196 => ?_)
            refine gx_iconst (v := nI 0) C dd_Mo_alone_199 (kk := ?_)
            refine gx_zret C dd_Mo_alone_200 (by first | rfl | exact fb_nar) ?_
            rw [hN]
            exact ⟨_, _, _, rfl, hw1, hS1, rfl⟩
  refine gx_aload_n C 0 dd_Mo_alone_0 (kk := ?_)
  refine mo_get C fd_Mo_69 dd_Mo_alone_1 (kk := ?_)
  refine gx_iload_n C 2 dd_Mo_alone_4 (kk := ?_)
  refine mo_l63 C dd_Mo_alone_5 (by omega) (kk := ?_)
  refine gx_topi _ (hiv.2.1.2.1 k t hkt) ?_
  refine gx_bipush (v := nI 16) C dd_Mo_alone_6 (kk := ?_)
  refine gx_irem C dd_Mo_alone_8 (kk := ?_)
  refine gx_topi (nI t.1) (mc_p hto) ?_
  refine gx_istore C _ dd_Mo_alone_9 (kk := ?_)
  refine gx_aload_n C 1 dd_Mo_alone_11 (kk := ?_)
  refine mo_get C fd_Mo_69 dd_Mo_alone_12 (kk := ?_)
  refine gx_iload_n C 3 dd_Mo_alone_15 (kk := ?_)
  refine mo_l63 C dd_Mo_alone_16 (by omega) (kk := ?_)
  refine gx_topi _ (hiv.2.1.2.1 k t hkt) ?_
  refine gx_bipush (v := nI 16) C dd_Mo_alone_17 (kk := ?_)
  refine gx_idiv C dd_Mo_alone_19 (kk := ?_)
  refine gx_topi _ (mc_q1 hto) ?_
  refine gx_bipush (v := nI 16) C dd_Mo_alone_20 (kk := ?_)
  refine gx_irem C dd_Mo_alone_22 (kk := ?_)
  refine gx_topi (nI t.2.1) (mc_q2 hto) ?_
  refine gx_istore C _ dd_Mo_alone_23 (kk := ?_)
  refine gx_bipush (v := nI 65) C dd_Mo_alone_25 (kk := ?_)
  refine gx_iload_n C 3 dd_Mo_alone_27 (kk := ?_)
  refine gx_imul C dd_Mo_alone_28 (kk := ?_)
  refine gx_topi _ (pk_mul _ _) ?_
  refine gx_istore C _ dd_Mo_alone_29 (kk := ?_)
  refine gx_loc [0, 2, 1, 3, 4, 5, 6] ?_
  exact outer (am_ar A).length 0 c F L S (by omega) (by rw [mm_second]; rfl) hiv mo_w_rf (fun _ _ => rfl)
theorem mc_exs {la lb : List (Nat × Nat)} {m k : Nat} {c : co_S} {t : co_t} (ht : c.1[k]? = some t) : co_ex la lb (m + 1) k c = match co_run k (co_items la lb t) c with
    | none => none
    | some c2 => co_ex la lb m (k + 1) c2 := by
  show (match c.1[k]? with | none => some c | some t => match co_run k (co_items la lb t) c with | none => none | some c2 => co_ex la lb m (k + 1) c2) = _
  rw [ht]
theorem mc_exn {la lb : List (Nat × Nat)} {m k : Nat} {c : co_S} (h : c.1.length ≤ k) : co_ex la lb m k c = some c := by
  cases m with
  | zero => rfl
  | succ m =>
    show (match c.1[k]? with | none => some c | some t => match co_run k (co_items la lb t) c with | none => none | some c2 => co_ex la lb m (k + 1) c2) = _
    rw [List.getElem?_eq_none h]
theorem mc_pre {s k : Nat} {I : List co_I} {c c2 : co_S} {t : co_t} (h : co_run s I c = some c2) (ht : c.1[k]? = some t) : c2.1[k]? = some t := by
  obtain ⟨X, hX⟩ := co_run_pre h
  rw [hX, List.getElem?_append_left (List.getElem?_eq_some_iff.mp ht).1]
  exact ht
theorem co_items_0 {la lb : List (Nat × Nat)} {t : co_t} (h : t.2.2 = 0) : co_items la lb t = co_both la lb t.1 t.2.1 false ++ (co_both la lb t.1 t.2.1 true ++ (co_first la t.1 t.2.1 ++ co_second lb t.1 t.2.1)) := by
  unfold co_items
  rw [if_pos h, if_neg (by omega), if_neg (by omega)]
theorem co_items_1 {la lb : List (Nat × Nat)} {t : co_t} (h : t.2.2 = 1) : co_items la lb t = co_both la lb t.1 t.2.1 false ++ co_first la t.1 t.2.1 := by
  unfold co_items
  rw [if_neg (by omega), if_neg (by omega), if_pos h, List.nil_append, List.append_nil]
theorem co_items_2 {la lb : List (Nat × Nat)} {t : co_t} (h : t.2.2 = 2) : co_items la lb t = co_both la lb t.1 t.2.1 false ++ co_second lb t.1 t.2.1 := by
  unfold co_items
  rw [if_neg (by omega), if_pos h, if_neg (by omega), List.nil_append, List.nil_append]
set_option maxRecDepth 100000 in
set_option maxHeartbeats 4000000 in
theorem ct_Mo_explore (l : Launch) (D : va_G) (dA : Nat → ClassId) (ad : Nat → Nat) (h : Nat → va_E) (F : mo_F) (L : mo_L) (S : Nat → Int32) {ia ib : Nat} {A B : am_T} (hia : ia < 4) (hib : ib < 4) (hA : mo_is F L ia A) (hB : mo_is F L ib B) (hAb : ∀ x ∈ am_ar A, x.1 < 16384 ∧ x.2 < 1000000001) (hBb : ∀ x ∈ am_ar B, x.1 < 16384 ∧ x.2 < 1000000001) {st : Option (Nat × Nat)} {c : co_S} (hiv : mc_iv F L S st c) : gx_Ct l D dA yy_Mo_explore cc_Mo_explore 6 (some .boolean) 4 0 0 [.ref (ad 43), .int (nI ia), .int (nI ib)] (gx_w ad (mo_h dA ad h F L S)) (fun v w => ∃ F2 L2 S2, w = (gx_w ad (mo_h dA ad h F2 L2 S2)) ∧ mo_w F L F2 L2 ∧ (∀ k, k ≠ 27 → S2 k = S k) ∧ mc_r v F2 L2 S2 st (co_ex (am_ar A) (am_ar B) 16 0 c)) := by
  refine gx_of (by decide) (Nat.le_of_ble_eq_true rfl) (fun K C _ _ => ?_)
  have loop : ∀ m k c1 F1 L1 S1, k + m = 16 → co_ex (am_ar A) (am_ar B) 16 0 c = co_ex (am_ar A) (am_ar B) m k c1 → mc_iv F1 L1 S1 st c1 → mo_w F L F1 L1 → (∀ k, k ≠ 27 → S1 k = S k) → gx_G K D 6 0 0 2 [(3, .int (nI k)), (0, .ref (ad 43)), (1, .int (nI ia)), (2, .int (nI ib))] [] (gx_w ad (mo_h dA ad h F1 L1 S1)) (gx_Z K D dA 0 0 (fun v w => ∃ F2 L2 S2, w = (gx_w ad (mo_h dA ad h F2 L2 S2)) ∧ mo_w F L F2 L2 ∧ (∀ k, k ≠ 27 → S2 k = S k) ∧ mc_r v F2 L2 S2 st (co_ex (am_ar A) (am_ar B) 16 0 c))) := by
    intro m
    induction m with
    | zero =>
      intro k c1 F1 L1 S1 hk hE hiv1 hw1 hS1
      have hl16 := hiv1.2.1.2.2.2
      refine gx_iload_n C 0 dd_Mo_explore_2 (kk := ?_)
      refine gx_aload_n C 1 dd_Mo_explore_3 (kk := ?_)
      refine mo_get C fd_Mo_103 dd_Mo_explore_4 (kk := ?_)
      refine gx_topi _ hiv1.2.1.1 ?_
      refine gx_icmp_ge C 101 dd_Mo_explore_7 (fun h7 => ?_) (fun h7 => absurd (nI_le (a := c1.1.length) (b := k) (by omega) (by omega)) h7)
      refine gx_iconst (v := nI 1) C dd_Mo_explore_101 (kk := ?_)
      refine gx_zret C dd_Mo_explore_102 (by first | rfl | exact fb_nar) ?_
      rw [hE, mc_exn (by omega)]
      exact ⟨_, _, _, rfl, hw1, hS1, rfl, hiv1⟩
    | succ m ih =>
      intro k c1 F1 L1 S1 hk hE hiv1 hw1 hS1
      have hl16 := hiv1.2.1.2.2.2
      refine gx_iload_n C 0 dd_Mo_explore_2 (kk := ?_)
      refine gx_aload_n C 1 dd_Mo_explore_3 (kk := ?_)
      refine mo_get C fd_Mo_103 dd_Mo_explore_4 (kk := ?_)
      refine gx_topi _ hiv1.2.1.1 ?_
      refine gx_icmp_ge C 101 dd_Mo_explore_7 (fun h7 => ?_) (fun h7 => ?_)
      · rw [nI_leI (by omega) (by omega)] at h7
        refine gx_iconst (v := nI 1) C dd_Mo_explore_101 (kk := ?_)
        refine gx_zret C dd_Mo_explore_102 (by first | rfl | exact fb_nar) ?_
        rw [hE, mc_exn (by omega)]
        exact ⟨_, _, _, rfl, hw1, hS1, rfl, hiv1⟩
      · have hkl : k < c1.1.length := by
          rw [nI_leI (by omega) (by omega)] at h7
          omega
        obtain ⟨t, ht⟩ : ∃ t, c1.1[k]? = some t := ⟨_, List.getElem?_eq_getElem hkl⟩
        have hto := hiv1.2.1.2.2.1 t (List.mem_of_getElem? ht)
        obtain ⟨ht1, ht2, ht3⟩ := hto
        have hto : co_ok t := ⟨ht1, ht2, ht3⟩
        refine gx_aload_n C 1 dd_Mo_explore_10 (kk := ?_)
        refine mo_get C fd_Mo_69 dd_Mo_explore_11 (kk := ?_)
        refine gx_iload_n C 0 dd_Mo_explore_14 (kk := ?_)
        refine mo_l63 C dd_Mo_explore_15 (by omega) (kk := ?_)
        refine gx_topi _ (hiv1.2.1.2.1 k t ht) ?_
        refine gx_sipush (v := nI 256) C dd_Mo_explore_16 (kk := ?_)
        refine gx_idiv C dd_Mo_explore_19 (kk := ?_)
        refine gx_topi (nI t.2.2) (mc_f hto) ?_
        refine gx_istore C _ dd_Mo_explore_20 (kk := ?_)
        rcases (show t.2.2 = 0 ∨ t.2.2 = 1 ∨ t.2.2 = 2 by omega) with hf | hf | hf
        · refine gx_aload_n C 2 dd_Mo_explore_22 (kk := ?_)
          refine gx_iload_n C 3 dd_Mo_explore_23 (kk := ?_)
          refine gx_iload_n C 4 dd_Mo_explore_24 (kk := ?_)
          refine gx_iload_n C 1 dd_Mo_explore_25 (kk := ?_)
          refine gx_iconst (v := nI 0) C dd_Mo_explore_26 (kk := ?_)
          refine gx_callV C (ct_Mo_meetF (gx_l K) D dA ad h F1 L1 S1 hia hib (mo_w_is hw1 hia hA) (mo_w_is hw1 hib hB) hAb hBb hiv1 ht) me_Mo_meet ml_Mo_115 mn_Mo_meet _ (gx_w_at (by decide) mo_h_43) rfl dd_Mo_explore_27 (kk := fun v w hq => ?_)
          obtain ⟨F_1, L_1, S_1, rfl, hwa, hSa, hra⟩ := hq
          have hw_1 := mo_w_tr hw1 hwa
          have hS_1 := mo_s_r hS1 hSa
          rcases hc0 : co_run k (co_both (am_ar A) (am_ar B) t.1 t.2.1 false) c1 with _ | c_1
          · rw [hc0] at hra
            obtain rfl : v = _ := hra
            have hN : co_ex (am_ar A) (am_ar B) 16 0 c = none := by
              rw [hE, mc_exs ht, co_items_0 hf]
              simp only [co_run_app, hc0]
            refine gx_if_eq C 85 dd_Mo_explore_30 (fun h30 => ?_) (fun h30 => absurd rfl h30)
            refine gx_iconst (v := nI 0) C dd_Mo_explore_85 (kk := ?_)
            refine gx_istore C _ dd_Mo_explore_86 (kk := ?_)
            refine gx_iload C 0 dd_Mo_explore_88 (kk := ?_)
            refine gx_if_ne C 95 dd_Mo_explore_90 (fun h90 => absurd rfl h90) (fun h90 => ?_)
            refine gx_iconst (v := nI 0) C dd_Mo_explore_93 (kk := ?_)
            refine gx_zret C dd_Mo_explore_94 (by first | rfl | exact fb_nar) ?_
            rw [hN]
            exact ⟨_, _, _, rfl, hw_1, hS_1, rfl⟩
          · rw [hc0] at hra
            obtain ⟨rfl, hiv_1⟩ := hra
            have ht_1 := mc_pre hc0 ht
            refine gx_if_eq C 85 dd_Mo_explore_30 (fun h30 => absurd h30 (by decide)) (fun h30 => ?_)
            refine gx_iload C 0 dd_Mo_explore_33 (kk := ?_)
            refine gx_if_ne C 49 dd_Mo_explore_35 (fun h35 => absurd (show nI t.2.2 = 0 by rw [hf]; rfl) h35) (fun h35 => ?_)
            refine gx_aload_n C 2 dd_Mo_explore_38 (kk := ?_)
            refine gx_iload_n C 3 dd_Mo_explore_39 (kk := ?_)
            refine gx_iload_n C 4 dd_Mo_explore_40 (kk := ?_)
            refine gx_iload_n C 1 dd_Mo_explore_41 (kk := ?_)
            refine gx_iconst (v := nI 1) C dd_Mo_explore_42 (kk := ?_)
            refine gx_callV C (ct_Mo_meetT (gx_l K) D dA ad h F_1 L_1 S_1 hia hib (mo_w_is hw_1 hia hA) (mo_w_is hw_1 hib hB) hAb hBb hiv_1 ht_1) me_Mo_meet ml_Mo_115 mn_Mo_meet _ (gx_w_at (by decide) mo_h_43) rfl dd_Mo_explore_43 (kk := fun v w hq => ?_)
            obtain ⟨F_2, L_2, S_2, rfl, hwa, hSa, hra⟩ := hq
            have hw_2 := mo_w_tr hw_1 hwa
            have hS_2 := mo_s_r hS_1 hSa
            rcases hc1 : co_run k (co_both (am_ar A) (am_ar B) t.1 t.2.1 true) c_1 with _ | c_2
            · rw [hc1] at hra
              obtain rfl : v = _ := hra
              have hN : co_ex (am_ar A) (am_ar B) 16 0 c = none := by
                rw [hE, mc_exs ht, co_items_0 hf]
                simp only [co_run_app, hc0, hc1]
              refine gx_if_eq C 85 dd_Mo_explore_46 (fun h46 => ?_) (fun h46 => absurd rfl h46)
              refine gx_iconst (v := nI 0) C dd_Mo_explore_85 (kk := ?_)
              refine gx_istore C _ dd_Mo_explore_86 (kk := ?_)
              refine gx_iload C 0 dd_Mo_explore_88 (kk := ?_)
              refine gx_if_ne C 95 dd_Mo_explore_90 (fun h90 => absurd rfl h90) (fun h90 => ?_)
              refine gx_iconst (v := nI 0) C dd_Mo_explore_93 (kk := ?_)
              refine gx_zret C dd_Mo_explore_94 (by first | rfl | exact fb_nar) ?_
              rw [hN]
              exact ⟨_, _, _, rfl, hw_2, hS_2, rfl⟩
            · rw [hc1] at hra
              obtain ⟨rfl, hiv_2⟩ := hra
              have ht_2 := mc_pre hc1 ht_1
              refine gx_if_eq C 85 dd_Mo_explore_46 (fun h46 => absurd h46 (by decide)) (fun h46 => ?_)
              refine gx_iload C 0 dd_Mo_explore_49 (kk := ?_)
              refine gx_iconst (v := nI 2) C dd_Mo_explore_51 (kk := ?_)
              refine gx_icmp_eq C 65 dd_Mo_explore_52 (fun h52 => absurd ((nI_eq (by omega) (by decide)).mp h52) (by omega)) (fun h52 => ?_)
              refine gx_aload_n C 2 dd_Mo_explore_55 (kk := ?_)
              refine gx_iload_n C 3 dd_Mo_explore_56 (kk := ?_)
              refine gx_iload_n C 1 dd_Mo_explore_57 (kk := ?_)
              refine gx_iconst (v := nI 1) C dd_Mo_explore_58 (kk := ?_)
              refine gx_callV C (ct_Mo_aloneF (gx_l K) D dA ad h F_2 L_2 S_2 hia (mo_w_is hw_2 hia hA) hAb hiv_2 ht_2) me_Mo_alone ml_Mo_119 mn_Mo_alone _ (gx_w_at (by decide) mo_h_43) rfl dd_Mo_explore_59 (kk := fun v w hq => ?_)
              obtain ⟨F_3, L_3, S_3, rfl, hwa, hSa, hra⟩ := hq
              have hw_3 := mo_w_tr hw_2 hwa
              have hS_3 := mo_s_r hS_2 hSa
              rcases hc2 : co_run k (co_first (am_ar A) t.1 t.2.1) c_2 with _ | c_3
              · rw [hc2] at hra
                obtain rfl : v = _ := hra
                have hN : co_ex (am_ar A) (am_ar B) 16 0 c = none := by
                  rw [hE, mc_exs ht, co_items_0 hf]
                  simp only [co_run_app, hc0, hc1, hc2]
                refine gx_if_eq C 85 dd_Mo_explore_62 (fun h62 => ?_) (fun h62 => absurd rfl h62)
                refine gx_iconst (v := nI 0) C dd_Mo_explore_85 (kk := ?_)
                refine gx_istore C _ dd_Mo_explore_86 (kk := ?_)
                refine gx_iload C 0 dd_Mo_explore_88 (kk := ?_)
                refine gx_if_ne C 95 dd_Mo_explore_90 (fun h90 => absurd rfl h90) (fun h90 => ?_)
                refine gx_iconst (v := nI 0) C dd_Mo_explore_93 (kk := ?_)
                refine gx_zret C dd_Mo_explore_94 (by first | rfl | exact fb_nar) ?_
                rw [hN]
                exact ⟨_, _, _, rfl, hw_3, hS_3, rfl⟩
              · rw [hc2] at hra
                obtain ⟨rfl, hiv_3⟩ := hra
                have ht_3 := mc_pre hc2 ht_2
                refine gx_if_eq C 85 dd_Mo_explore_62 (fun h62 => absurd h62 (by decide)) (fun h62 => ?_)
                refine gx_iload C 0 dd_Mo_explore_65 (kk := ?_)
                refine gx_iconst (v := nI 1) C dd_Mo_explore_67 (kk := ?_)
                refine gx_icmp_eq C 81 dd_Mo_explore_68 (fun h68 => absurd ((nI_eq (by omega) (by decide)).mp h68) (by omega)) (fun h68 => ?_)
                refine gx_aload_n C 2 dd_Mo_explore_71 (kk := ?_)
                refine gx_iload_n C 4 dd_Mo_explore_72 (kk := ?_)
                refine gx_iload_n C 1 dd_Mo_explore_73 (kk := ?_)
                refine gx_iconst (v := nI 0) C dd_Mo_explore_74 (kk := ?_)
                refine gx_callV C (ct_Mo_aloneS (gx_l K) D dA ad h F_3 L_3 S_3 hib (mo_w_is hw_3 hib hB) hBb hiv_3 ht_3) me_Mo_alone ml_Mo_119 mn_Mo_alone _ (gx_w_at (by decide) mo_h_43) rfl dd_Mo_explore_75 (kk := fun v w hq => ?_)
                obtain ⟨F_4, L_4, S_4, rfl, hwa, hSa, hra⟩ := hq
                have hw_4 := mo_w_tr hw_3 hwa
                have hS_4 := mo_s_r hS_3 hSa
                rcases hc3 : co_run k (co_second (am_ar B) t.1 t.2.1) c_3 with _ | c_4
                · rw [hc3] at hra
                  obtain rfl : v = _ := hra
                  have hN : co_ex (am_ar A) (am_ar B) 16 0 c = none := by
                    rw [hE, mc_exs ht, co_items_0 hf]
                    simp only [co_run_app, hc0, hc1, hc2, hc3]
                  refine gx_if_eq C 85 dd_Mo_explore_78 (fun h78 => ?_) (fun h78 => absurd rfl h78)
                  refine gx_iconst (v := nI 0) C dd_Mo_explore_85 (kk := ?_)
                  refine gx_istore C _ dd_Mo_explore_86 (kk := ?_)
                  refine gx_iload C 0 dd_Mo_explore_88 (kk := ?_)
                  refine gx_if_ne C 95 dd_Mo_explore_90 (fun h90 => absurd rfl h90) (fun h90 => ?_)
                  refine gx_iconst (v := nI 0) C dd_Mo_explore_93 (kk := ?_)
                  refine gx_zret C dd_Mo_explore_94 (by first | rfl | exact fb_nar) ?_
                  rw [hN]
                  exact ⟨_, _, _, rfl, hw_4, hS_4, rfl⟩
                · rw [hc3] at hra
                  obtain ⟨rfl, hiv_4⟩ := hra
                  have ht_4 := mc_pre hc3 ht_3
                  have hC : co_ex (am_ar A) (am_ar B) 16 0 c = co_ex (am_ar A) (am_ar B) m (k + 1) c_4 := by
                    rw [hE, mc_exs ht, co_items_0 hf]
                    simp only [co_run_app, hc0, hc1, hc2, hc3]
                  refine gx_if_eq C 85 dd_Mo_explore_78 (fun h78 => absurd h78 (by decide)) (fun h78 => ?_)
                  refine gx_iconst (v := nI 1) C dd_Mo_explore_81 (kk := ?_)
                  refine gx_goto C 86 dd_Mo_explore_82 (kk := ?_)
                  refine gx_istore C _ dd_Mo_explore_86 (kk := ?_)
                  refine gx_iload C 0 dd_Mo_explore_88 (kk := ?_)
                  refine gx_if_ne C 95 dd_Mo_explore_90 (fun h90 => ?_) (fun h90 => absurd h90 (by decide))
                  refine gx_iinc C 2 (nI (k + 1)) _ dd_Mo_explore_95 (nI_1 k) (kk := ?_)
                  refine gx_goto C 2 dd_Mo_explore_98 (kk := ?_)
                  refine gx_loc [0, 3, 4, 5] ?_
                  exact ih (k + 1) c_4 F_4 L_4 S_4 (by omega) hC hiv_4 hw_4 hS_4
        · refine gx_aload_n C 2 dd_Mo_explore_22 (kk := ?_)
          refine gx_iload_n C 3 dd_Mo_explore_23 (kk := ?_)
          refine gx_iload_n C 4 dd_Mo_explore_24 (kk := ?_)
          refine gx_iload_n C 1 dd_Mo_explore_25 (kk := ?_)
          refine gx_iconst (v := nI 0) C dd_Mo_explore_26 (kk := ?_)
          refine gx_callV C (ct_Mo_meetF (gx_l K) D dA ad h F1 L1 S1 hia hib (mo_w_is hw1 hia hA) (mo_w_is hw1 hib hB) hAb hBb hiv1 ht) me_Mo_meet ml_Mo_115 mn_Mo_meet _ (gx_w_at (by decide) mo_h_43) rfl dd_Mo_explore_27 (kk := fun v w hq => ?_)
          obtain ⟨F_1, L_1, S_1, rfl, hwa, hSa, hra⟩ := hq
          have hw_1 := mo_w_tr hw1 hwa
          have hS_1 := mo_s_r hS1 hSa
          rcases hc0 : co_run k (co_both (am_ar A) (am_ar B) t.1 t.2.1 false) c1 with _ | c_1
          · rw [hc0] at hra
            obtain rfl : v = _ := hra
            have hN : co_ex (am_ar A) (am_ar B) 16 0 c = none := by
              rw [hE, mc_exs ht, co_items_1 hf]
              simp only [co_run_app, hc0]
            refine gx_if_eq C 85 dd_Mo_explore_30 (fun h30 => ?_) (fun h30 => absurd rfl h30)
            refine gx_iconst (v := nI 0) C dd_Mo_explore_85 (kk := ?_)
            refine gx_istore C _ dd_Mo_explore_86 (kk := ?_)
            refine gx_iload C 0 dd_Mo_explore_88 (kk := ?_)
            refine gx_if_ne C 95 dd_Mo_explore_90 (fun h90 => absurd rfl h90) (fun h90 => ?_)
            refine gx_iconst (v := nI 0) C dd_Mo_explore_93 (kk := ?_)
            refine gx_zret C dd_Mo_explore_94 (by first | rfl | exact fb_nar) ?_
            rw [hN]
            exact ⟨_, _, _, rfl, hw_1, hS_1, rfl⟩
          · rw [hc0] at hra
            obtain ⟨rfl, hiv_1⟩ := hra
            have ht_1 := mc_pre hc0 ht
            refine gx_if_eq C 85 dd_Mo_explore_30 (fun h30 => absurd h30 (by decide)) (fun h30 => ?_)
            refine gx_iload C 0 dd_Mo_explore_33 (kk := ?_)
            refine gx_if_ne C 49 dd_Mo_explore_35 (fun h35 => ?_) (fun h35 => absurd h35 (nI_ne0 (by omega) (by omega)))
            refine gx_iload C 0 dd_Mo_explore_49 (kk := ?_)
            refine gx_iconst (v := nI 2) C dd_Mo_explore_51 (kk := ?_)
            refine gx_icmp_eq C 65 dd_Mo_explore_52 (fun h52 => absurd ((nI_eq (by omega) (by decide)).mp h52) (by omega)) (fun h52 => ?_)
            refine gx_aload_n C 2 dd_Mo_explore_55 (kk := ?_)
            refine gx_iload_n C 3 dd_Mo_explore_56 (kk := ?_)
            refine gx_iload_n C 1 dd_Mo_explore_57 (kk := ?_)
            refine gx_iconst (v := nI 1) C dd_Mo_explore_58 (kk := ?_)
            refine gx_callV C (ct_Mo_aloneF (gx_l K) D dA ad h F_1 L_1 S_1 hia (mo_w_is hw_1 hia hA) hAb hiv_1 ht_1) me_Mo_alone ml_Mo_119 mn_Mo_alone _ (gx_w_at (by decide) mo_h_43) rfl dd_Mo_explore_59 (kk := fun v w hq => ?_)
            obtain ⟨F_2, L_2, S_2, rfl, hwa, hSa, hra⟩ := hq
            have hw_2 := mo_w_tr hw_1 hwa
            have hS_2 := mo_s_r hS_1 hSa
            rcases hc1 : co_run k (co_first (am_ar A) t.1 t.2.1) c_1 with _ | c_2
            · rw [hc1] at hra
              obtain rfl : v = _ := hra
              have hN : co_ex (am_ar A) (am_ar B) 16 0 c = none := by
                rw [hE, mc_exs ht, co_items_1 hf]
                simp only [co_run_app, hc0, hc1]
              refine gx_if_eq C 85 dd_Mo_explore_62 (fun h62 => ?_) (fun h62 => absurd rfl h62)
              refine gx_iconst (v := nI 0) C dd_Mo_explore_85 (kk := ?_)
              refine gx_istore C _ dd_Mo_explore_86 (kk := ?_)
              refine gx_iload C 0 dd_Mo_explore_88 (kk := ?_)
              refine gx_if_ne C 95 dd_Mo_explore_90 (fun h90 => absurd rfl h90) (fun h90 => ?_)
              refine gx_iconst (v := nI 0) C dd_Mo_explore_93 (kk := ?_)
              refine gx_zret C dd_Mo_explore_94 (by first | rfl | exact fb_nar) ?_
              rw [hN]
              exact ⟨_, _, _, rfl, hw_2, hS_2, rfl⟩
            · rw [hc1] at hra
              obtain ⟨rfl, hiv_2⟩ := hra
              have ht_2 := mc_pre hc1 ht_1
              have hC : co_ex (am_ar A) (am_ar B) 16 0 c = co_ex (am_ar A) (am_ar B) m (k + 1) c_2 := by
                rw [hE, mc_exs ht, co_items_1 hf]
                simp only [co_run_app, hc0, hc1]
              refine gx_if_eq C 85 dd_Mo_explore_62 (fun h62 => absurd h62 (by decide)) (fun h62 => ?_)
              refine gx_iload C 0 dd_Mo_explore_65 (kk := ?_)
              refine gx_iconst (v := nI 1) C dd_Mo_explore_67 (kk := ?_)
              refine gx_icmp_eq C 81 dd_Mo_explore_68 (fun h68 => ?_) (fun h68 => absurd (congrArg nI hf) h68)
              refine gx_iconst (v := nI 1) C dd_Mo_explore_81 (kk := ?_)
              refine gx_goto C 86 dd_Mo_explore_82 (kk := ?_)
              refine gx_istore C _ dd_Mo_explore_86 (kk := ?_)
              refine gx_iload C 0 dd_Mo_explore_88 (kk := ?_)
              refine gx_if_ne C 95 dd_Mo_explore_90 (fun h90 => ?_) (fun h90 => absurd h90 (by decide))
              refine gx_iinc C 2 (nI (k + 1)) _ dd_Mo_explore_95 (nI_1 k) (kk := ?_)
              refine gx_goto C 2 dd_Mo_explore_98 (kk := ?_)
              refine gx_loc [0, 3, 4, 5] ?_
              exact ih (k + 1) c_2 F_2 L_2 S_2 (by omega) hC hiv_2 hw_2 hS_2
        · refine gx_aload_n C 2 dd_Mo_explore_22 (kk := ?_)
          refine gx_iload_n C 3 dd_Mo_explore_23 (kk := ?_)
          refine gx_iload_n C 4 dd_Mo_explore_24 (kk := ?_)
          refine gx_iload_n C 1 dd_Mo_explore_25 (kk := ?_)
          refine gx_iconst (v := nI 0) C dd_Mo_explore_26 (kk := ?_)
          refine gx_callV C (ct_Mo_meetF (gx_l K) D dA ad h F1 L1 S1 hia hib (mo_w_is hw1 hia hA) (mo_w_is hw1 hib hB) hAb hBb hiv1 ht) me_Mo_meet ml_Mo_115 mn_Mo_meet _ (gx_w_at (by decide) mo_h_43) rfl dd_Mo_explore_27 (kk := fun v w hq => ?_)
          obtain ⟨F_1, L_1, S_1, rfl, hwa, hSa, hra⟩ := hq
          have hw_1 := mo_w_tr hw1 hwa
          have hS_1 := mo_s_r hS1 hSa
          rcases hc0 : co_run k (co_both (am_ar A) (am_ar B) t.1 t.2.1 false) c1 with _ | c_1
          · rw [hc0] at hra
            obtain rfl : v = _ := hra
            have hN : co_ex (am_ar A) (am_ar B) 16 0 c = none := by
              rw [hE, mc_exs ht, co_items_2 hf]
              simp only [co_run_app, hc0]
            refine gx_if_eq C 85 dd_Mo_explore_30 (fun h30 => ?_) (fun h30 => absurd rfl h30)
            refine gx_iconst (v := nI 0) C dd_Mo_explore_85 (kk := ?_)
            refine gx_istore C _ dd_Mo_explore_86 (kk := ?_)
            refine gx_iload C 0 dd_Mo_explore_88 (kk := ?_)
            refine gx_if_ne C 95 dd_Mo_explore_90 (fun h90 => absurd rfl h90) (fun h90 => ?_)
            refine gx_iconst (v := nI 0) C dd_Mo_explore_93 (kk := ?_)
            refine gx_zret C dd_Mo_explore_94 (by first | rfl | exact fb_nar) ?_
            rw [hN]
            exact ⟨_, _, _, rfl, hw_1, hS_1, rfl⟩
          · rw [hc0] at hra
            obtain ⟨rfl, hiv_1⟩ := hra
            have ht_1 := mc_pre hc0 ht
            refine gx_if_eq C 85 dd_Mo_explore_30 (fun h30 => absurd h30 (by decide)) (fun h30 => ?_)
            refine gx_iload C 0 dd_Mo_explore_33 (kk := ?_)
            refine gx_if_ne C 49 dd_Mo_explore_35 (fun h35 => ?_) (fun h35 => absurd h35 (nI_ne0 (by omega) (by omega)))
            refine gx_iload C 0 dd_Mo_explore_49 (kk := ?_)
            refine gx_iconst (v := nI 2) C dd_Mo_explore_51 (kk := ?_)
            refine gx_icmp_eq C 65 dd_Mo_explore_52 (fun h52 => ?_) (fun h52 => absurd (congrArg nI hf) h52)
            refine gx_iload C 0 dd_Mo_explore_65 (kk := ?_)
            refine gx_iconst (v := nI 1) C dd_Mo_explore_67 (kk := ?_)
            refine gx_icmp_eq C 81 dd_Mo_explore_68 (fun h68 => absurd ((nI_eq (by omega) (by decide)).mp h68) (by omega)) (fun h68 => ?_)
            refine gx_aload_n C 2 dd_Mo_explore_71 (kk := ?_)
            refine gx_iload_n C 4 dd_Mo_explore_72 (kk := ?_)
            refine gx_iload_n C 1 dd_Mo_explore_73 (kk := ?_)
            refine gx_iconst (v := nI 0) C dd_Mo_explore_74 (kk := ?_)
            refine gx_callV C (ct_Mo_aloneS (gx_l K) D dA ad h F_1 L_1 S_1 hib (mo_w_is hw_1 hib hB) hBb hiv_1 ht_1) me_Mo_alone ml_Mo_119 mn_Mo_alone _ (gx_w_at (by decide) mo_h_43) rfl dd_Mo_explore_75 (kk := fun v w hq => ?_)
            obtain ⟨F_2, L_2, S_2, rfl, hwa, hSa, hra⟩ := hq
            have hw_2 := mo_w_tr hw_1 hwa
            have hS_2 := mo_s_r hS_1 hSa
            rcases hc1 : co_run k (co_second (am_ar B) t.1 t.2.1) c_1 with _ | c_2
            · rw [hc1] at hra
              obtain rfl : v = _ := hra
              have hN : co_ex (am_ar A) (am_ar B) 16 0 c = none := by
                rw [hE, mc_exs ht, co_items_2 hf]
                simp only [co_run_app, hc0, hc1]
              refine gx_if_eq C 85 dd_Mo_explore_78 (fun h78 => ?_) (fun h78 => absurd rfl h78)
              refine gx_iconst (v := nI 0) C dd_Mo_explore_85 (kk := ?_)
              refine gx_istore C _ dd_Mo_explore_86 (kk := ?_)
              refine gx_iload C 0 dd_Mo_explore_88 (kk := ?_)
              refine gx_if_ne C 95 dd_Mo_explore_90 (fun h90 => absurd rfl h90) (fun h90 => ?_)
              refine gx_iconst (v := nI 0) C dd_Mo_explore_93 (kk := ?_)
              refine gx_zret C dd_Mo_explore_94 (by first | rfl | exact fb_nar) ?_
              rw [hN]
              exact ⟨_, _, _, rfl, hw_2, hS_2, rfl⟩
            · rw [hc1] at hra
              obtain ⟨rfl, hiv_2⟩ := hra
              have ht_2 := mc_pre hc1 ht_1
              have hC : co_ex (am_ar A) (am_ar B) 16 0 c = co_ex (am_ar A) (am_ar B) m (k + 1) c_2 := by
                rw [hE, mc_exs ht, co_items_2 hf]
                simp only [co_run_app, hc0, hc1]
              refine gx_if_eq C 85 dd_Mo_explore_78 (fun h78 => absurd h78 (by decide)) (fun h78 => ?_)
              refine gx_iconst (v := nI 1) C dd_Mo_explore_81 (kk := ?_)
              refine gx_goto C 86 dd_Mo_explore_82 (kk := ?_)
              refine gx_istore C _ dd_Mo_explore_86 (kk := ?_)
              refine gx_iload C 0 dd_Mo_explore_88 (kk := ?_)
              refine gx_if_ne C 95 dd_Mo_explore_90 (fun h90 => ?_) (fun h90 => absurd h90 (by decide))
              refine gx_iinc C 2 (nI (k + 1)) _ dd_Mo_explore_95 (nI_1 k) (kk := ?_)
              refine gx_goto C 2 dd_Mo_explore_98 (kk := ?_)
              refine gx_loc [0, 3, 4, 5] ?_
              exact ih (k + 1) c_2 F_2 L_2 S_2 (by omega) hC hiv_2 hw_2 hS_2
  refine gx_iconst (v := nI 0) C dd_Mo_explore_0 (kk := ?_)
  refine gx_istore_n C _ dd_Mo_explore_1 (kk := ?_)
  exact loop 16 0 c F L S rfl rfl hiv mo_w_rf (fun _ _ => rfl)
