theorem dd_Mo_isSlot_0 : decode cc_Mo_isSlot 0 = .ok (.iload_n 0, 1) := by decide +kernel
theorem dd_Mo_isSlot_1 : decode cc_Mo_isSlot 1 = .ok (.ifCond .lt 12, 3) := by decide +kernel
theorem dd_Mo_isSlot_4 : decode cc_Mo_isSlot 4 = .ok (.iload_n 0, 1) := by decide +kernel
theorem dd_Mo_isSlot_5 : decode cc_Mo_isSlot 5 = .ok (.iconst 3, 1) := by decide +kernel
theorem dd_Mo_isSlot_6 : decode cc_Mo_isSlot 6 = .ok (.if_icmp .gt 7, 3) := by decide +kernel
theorem dd_Mo_isSlot_9 : decode cc_Mo_isSlot 9 = .ok (.iconst 1, 1) := by decide +kernel
theorem dd_Mo_isSlot_10 : decode cc_Mo_isSlot 10 = .ok (.goto 4, 3) := by decide +kernel
theorem dd_Mo_isSlot_13 : decode cc_Mo_isSlot 13 = .ok (.iconst 0, 1) := by decide +kernel
theorem dd_Mo_isSlot_14 : decode cc_Mo_isSlot 14 = .ok (.ireturn, 1) := by decide +kernel
theorem dd_Mo_isWeight_0 : decode cc_Mo_isWeight 0 = .ok (.lload_n 0, 1) := by decide +kernel
theorem dd_Mo_isWeight_1 : decode cc_Mo_isWeight 1 = .ok (.lconst 0, 1) := by decide +kernel
theorem dd_Mo_isWeight_2 : decode cc_Mo_isWeight 2 = .ok (.lcmp, 1) := by decide +kernel
theorem dd_Mo_isWeight_3 : decode cc_Mo_isWeight 3 = .ok (.ifCond .lt 15, 3) := by decide +kernel
theorem dd_Mo_isWeight_6 : decode cc_Mo_isWeight 6 = .ok (.lload_n 0, 1) := by decide +kernel
theorem dd_Mo_isWeight_7 : decode cc_Mo_isWeight 7 = .ok (.ldc2_w 85, 3) := by decide +kernel
theorem dd_Mo_isWeight_10 : decode cc_Mo_isWeight 10 = .ok (.lcmp, 1) := by decide +kernel
theorem dd_Mo_isWeight_11 : decode cc_Mo_isWeight 11 = .ok (.ifCond .gt 7, 3) := by decide +kernel
theorem dd_Mo_isWeight_14 : decode cc_Mo_isWeight 14 = .ok (.iconst 1, 1) := by decide +kernel
theorem dd_Mo_isWeight_15 : decode cc_Mo_isWeight 15 = .ok (.goto 4, 3) := by decide +kernel
theorem dd_Mo_isWeight_18 : decode cc_Mo_isWeight 18 = .ok (.iconst 0, 1) := by decide +kernel
theorem dd_Mo_isWeight_19 : decode cc_Mo_isWeight 19 = .ok (.ireturn, 1) := by decide +kernel
theorem dd_Mo_isState_0 : decode cc_Mo_isState 0 = .ok (.iload_n 1, 1) := by decide +kernel
theorem dd_Mo_isState_1 : decode cc_Mo_isState 1 = .ok (.invokestatic 81, 3) := by decide +kernel
theorem dd_Mo_isState_4 : decode cc_Mo_isState 4 = .ok (.ifCond .eq 21, 3) := by decide +kernel
theorem dd_Mo_isState_7 : decode cc_Mo_isState 7 = .ok (.iload_n 2, 1) := by decide +kernel
theorem dd_Mo_isState_8 : decode cc_Mo_isState 8 = .ok (.ifCond .lt 17, 3) := by decide +kernel
theorem dd_Mo_isState_11 : decode cc_Mo_isState 11 = .ok (.iload_n 2, 1) := by decide +kernel
theorem dd_Mo_isState_12 : decode cc_Mo_isState 12 = .ok (.aload_n 0, 1) := by decide +kernel
theorem dd_Mo_isState_13 : decode cc_Mo_isState 13 = .ok (.getfield 7, 3) := by decide +kernel
theorem dd_Mo_isState_16 : decode cc_Mo_isState 16 = .ok (.iload_n 1, 1) := by decide +kernel
theorem dd_Mo_isState_17 : decode cc_Mo_isState 17 = .ok (.iaload, 1) := by decide +kernel
theorem dd_Mo_isState_18 : decode cc_Mo_isState 18 = .ok (.if_icmp .ge 7, 3) := by decide +kernel
theorem dd_Mo_isState_21 : decode cc_Mo_isState 21 = .ok (.iconst 1, 1) := by decide +kernel
theorem dd_Mo_isState_22 : decode cc_Mo_isState 22 = .ok (.goto 4, 3) := by decide +kernel
theorem dd_Mo_isState_25 : decode cc_Mo_isState 25 = .ok (.iconst 0, 1) := by decide +kernel
theorem dd_Mo_isState_26 : decode cc_Mo_isState 26 = .ok (.ireturn, 1) := by decide +kernel
theorem dd_Mo_blank_0 : decode cc_Mo_blank 0 = .ok (.aload_n 0, 1) := by decide +kernel
theorem dd_Mo_blank_1 : decode cc_Mo_blank 1 = .ok (.getfield 7, 3) := by decide +kernel
theorem dd_Mo_blank_4 : decode cc_Mo_blank 4 = .ok (.iload_n 1, 1) := by decide +kernel
theorem dd_Mo_blank_5 : decode cc_Mo_blank 5 = .ok (.iload_n 2, 1) := by decide +kernel
theorem dd_Mo_blank_6 : decode cc_Mo_blank 6 = .ok (.iastore, 1) := by decide +kernel
theorem dd_Mo_blank_7 : decode cc_Mo_blank 7 = .ok (.aload_n 0, 1) := by decide +kernel
theorem dd_Mo_blank_8 : decode cc_Mo_blank 8 = .ok (.getfield 13, 3) := by decide +kernel
theorem dd_Mo_blank_11 : decode cc_Mo_blank 11 = .ok (.iload_n 1, 1) := by decide +kernel
theorem dd_Mo_blank_12 : decode cc_Mo_blank 12 = .ok (.iconst (-1), 1) := by decide +kernel
theorem dd_Mo_blank_13 : decode cc_Mo_blank 13 = .ok (.iastore, 1) := by decide +kernel
theorem dd_Mo_blank_14 : decode cc_Mo_blank 14 = .ok (.aload_n 0, 1) := by decide +kernel
theorem dd_Mo_blank_15 : decode cc_Mo_blank 15 = .ok (.getfield 16, 3) := by decide +kernel
theorem dd_Mo_blank_18 : decode cc_Mo_blank 18 = .ok (.iload_n 1, 1) := by decide +kernel
theorem dd_Mo_blank_19 : decode cc_Mo_blank 19 = .ok (.ldc2_w 79, 3) := by decide +kernel
theorem dd_Mo_blank_22 : decode cc_Mo_blank 22 = .ok (.lastore, 1) := by decide +kernel
theorem dd_Mo_blank_23 : decode cc_Mo_blank 23 = .ok (.aload_n 0, 1) := by decide +kernel
theorem dd_Mo_blank_24 : decode cc_Mo_blank 24 = .ok (.getfield 23, 3) := by decide +kernel
theorem dd_Mo_blank_27 : decode cc_Mo_blank 27 = .ok (.iload_n 1, 1) := by decide +kernel
theorem dd_Mo_blank_28 : decode cc_Mo_blank 28 = .ok (.iconst 0, 1) := by decide +kernel
theorem dd_Mo_blank_29 : decode cc_Mo_blank 29 = .ok (.iastore, 1) := by decide +kernel
theorem dd_Mo_blank_30 : decode cc_Mo_blank 30 = .ok (.iconst 0, 1) := by decide +kernel
theorem dd_Mo_blank_31 : decode cc_Mo_blank 31 = .ok (.istore_n 3, 1) := by decide +kernel
theorem dd_Mo_blank_32 : decode cc_Mo_blank 32 = .ok (.iload_n 3, 1) := by decide +kernel
theorem dd_Mo_blank_33 : decode cc_Mo_blank 33 = .ok (.bipush 16, 2) := by decide +kernel
theorem dd_Mo_blank_35 : decode cc_Mo_blank 35 = .ok (.if_icmp .ge 23, 3) := by decide +kernel
theorem dd_Mo_blank_38 : decode cc_Mo_blank 38 = .ok (.aload_n 0, 1) := by decide +kernel
theorem dd_Mo_blank_39 : decode cc_Mo_blank 39 = .ok (.getfield 20, 3) := by decide +kernel
theorem dd_Mo_blank_42 : decode cc_Mo_blank 42 = .ok (.bipush 16, 2) := by decide +kernel
theorem dd_Mo_blank_44 : decode cc_Mo_blank 44 = .ok (.iload_n 1, 1) := by decide +kernel
theorem dd_Mo_blank_45 : decode cc_Mo_blank 45 = .ok (.imul, 1) := by decide +kernel
theorem dd_Mo_blank_46 : decode cc_Mo_blank 46 = .ok (.iload_n 3, 1) := by decide +kernel
theorem dd_Mo_blank_47 : decode cc_Mo_blank 47 = .ok (.iadd, 1) := by decide +kernel
theorem dd_Mo_blank_48 : decode cc_Mo_blank 48 = .ok (.ldc2_w 79, 3) := by decide +kernel
theorem dd_Mo_blank_51 : decode cc_Mo_blank 51 = .ok (.lastore, 1) := by decide +kernel
theorem dd_Mo_blank_52 : decode cc_Mo_blank 52 = .ok (.iinc 3 1, 3) := by decide +kernel
theorem dd_Mo_blank_55 : decode cc_Mo_blank 55 = .ok (.goto (-23), 3) := by decide +kernel
theorem dd_Mo_blank_58 : decode cc_Mo_blank 58 = .ok (.return_, 1) := by decide +kernel
theorem dd_Mo_against_0 : decode cc_Mo_against 0 = .ok (.iload_n 2, 1) := by decide +kernel
theorem dd_Mo_against_1 : decode cc_Mo_against 1 = .ok (.aload_n 0, 1) := by decide +kernel
theorem dd_Mo_against_2 : decode cc_Mo_against 2 = .ok (.getfield 26, 3) := by decide +kernel
theorem dd_Mo_against_5 : decode cc_Mo_against 5 = .ok (.iload_n 1, 1) := by decide +kernel
theorem dd_Mo_against_6 : decode cc_Mo_against 6 = .ok (.iaload, 1) := by decide +kernel
theorem dd_Mo_against_7 : decode cc_Mo_against 7 = .ok (.if_icmp .eq 14, 3) := by decide +kernel
theorem dd_Mo_against_10 : decode cc_Mo_against 10 = .ok (.iload_n 2, 1) := by decide +kernel
theorem dd_Mo_against_11 : decode cc_Mo_against 11 = .ok (.aload_n 0, 1) := by decide +kernel
theorem dd_Mo_against_12 : decode cc_Mo_against 12 = .ok (.getfield 26, 3) := by decide +kernel
theorem dd_Mo_against_15 : decode cc_Mo_against 15 = .ok (.iload_n 1, 1) := by decide +kernel
theorem dd_Mo_against_16 : decode cc_Mo_against 16 = .ok (.iaload, 1) := by decide +kernel
theorem dd_Mo_against_17 : decode cc_Mo_against 17 = .ok (.isub, 1) := by decide +kernel
theorem dd_Mo_against_18 : decode cc_Mo_against 18 = .ok (.goto 57, 3) := by decide +kernel
theorem dd_Mo_against_21 : decode cc_Mo_against 21 = .ok (.iload 4, 2) := by decide +kernel
theorem dd_Mo_against_23 : decode cc_Mo_against 23 = .ok (.aload_n 0, 1) := by decide +kernel
theorem dd_Mo_against_24 : decode cc_Mo_against 24 = .ok (.getfield 32, 3) := by decide +kernel
theorem dd_Mo_against_27 : decode cc_Mo_against 27 = .ok (.iload_n 1, 1) := by decide +kernel
theorem dd_Mo_against_28 : decode cc_Mo_against 28 = .ok (.iaload, 1) := by decide +kernel
theorem dd_Mo_against_29 : decode cc_Mo_against 29 = .ok (.if_icmp .eq 15, 3) := by decide +kernel
theorem dd_Mo_against_32 : decode cc_Mo_against 32 = .ok (.iload 4, 2) := by decide +kernel
theorem dd_Mo_against_34 : decode cc_Mo_against 34 = .ok (.aload_n 0, 1) := by decide +kernel
theorem dd_Mo_against_35 : decode cc_Mo_against 35 = .ok (.getfield 32, 3) := by decide +kernel
theorem dd_Mo_against_38 : decode cc_Mo_against 38 = .ok (.iload_n 1, 1) := by decide +kernel
theorem dd_Mo_against_39 : decode cc_Mo_against 39 = .ok (.iaload, 1) := by decide +kernel
theorem dd_Mo_against_40 : decode cc_Mo_against 40 = .ok (.isub, 1) := by decide +kernel
theorem dd_Mo_against_41 : decode cc_Mo_against 41 = .ok (.goto 34, 3) := by decide +kernel
theorem dd_Mo_against_44 : decode cc_Mo_against 44 = .ok (.iload 5, 2) := by decide +kernel
theorem dd_Mo_against_46 : decode cc_Mo_against 46 = .ok (.aload_n 0, 1) := by decide +kernel
theorem dd_Mo_against_47 : decode cc_Mo_against 47 = .ok (.getfield 35, 3) := by decide +kernel
theorem dd_Mo_against_50 : decode cc_Mo_against 50 = .ok (.iload_n 1, 1) := by decide +kernel
theorem dd_Mo_against_51 : decode cc_Mo_against 51 = .ok (.iaload, 1) := by decide +kernel
theorem dd_Mo_against_52 : decode cc_Mo_against 52 = .ok (.if_icmp .eq 15, 3) := by decide +kernel
theorem dd_Mo_against_55 : decode cc_Mo_against 55 = .ok (.iload 5, 2) := by decide +kernel
theorem dd_Mo_against_57 : decode cc_Mo_against 57 = .ok (.aload_n 0, 1) := by decide +kernel
theorem dd_Mo_against_58 : decode cc_Mo_against 58 = .ok (.getfield 35, 3) := by decide +kernel
theorem dd_Mo_against_61 : decode cc_Mo_against 61 = .ok (.iload_n 1, 1) := by decide +kernel
theorem dd_Mo_against_62 : decode cc_Mo_against 62 = .ok (.iaload, 1) := by decide +kernel
theorem dd_Mo_against_63 : decode cc_Mo_against 63 = .ok (.isub, 1) := by decide +kernel
theorem dd_Mo_against_64 : decode cc_Mo_against 64 = .ok (.goto 11, 3) := by decide +kernel
theorem dd_Mo_against_67 : decode cc_Mo_against 67 = .ok (.iload_n 3, 1) := by decide +kernel
theorem dd_Mo_against_68 : decode cc_Mo_against 68 = .ok (.aload_n 0, 1) := by decide +kernel
theorem dd_Mo_against_69 : decode cc_Mo_against 69 = .ok (.getfield 29, 3) := by decide +kernel
theorem dd_Mo_against_72 : decode cc_Mo_against 72 = .ok (.iload_n 1, 1) := by decide +kernel
theorem dd_Mo_against_73 : decode cc_Mo_against 73 = .ok (.iaload, 1) := by decide +kernel
theorem dd_Mo_against_74 : decode cc_Mo_against 74 = .ok (.isub, 1) := by decide +kernel
theorem dd_Mo_against_75 : decode cc_Mo_against 75 = .ok (.istore 6, 2) := by decide +kernel
theorem dd_Mo_against_77 : decode cc_Mo_against 77 = .ok (.iload 6, 2) := by decide +kernel
theorem dd_Mo_against_79 : decode cc_Mo_against 79 = .ok (.ireturn, 1) := by decide +kernel
theorem dd_Mo_put_0 : decode cc_Mo_put 0 = .ok (.bipush 65, 2) := by decide +kernel
theorem dd_Mo_put_2 : decode cc_Mo_put 2 = .ok (.iload_n 1, 1) := by decide +kernel
theorem dd_Mo_put_3 : decode cc_Mo_put 3 = .ok (.imul, 1) := by decide +kernel
theorem dd_Mo_put_4 : decode cc_Mo_put 4 = .ok (.istore 8, 2) := by decide +kernel
theorem dd_Mo_put_6 : decode cc_Mo_put 6 = .ok (.bipush 65, 2) := by decide +kernel
theorem dd_Mo_put_8 : decode cc_Mo_put 8 = .ok (.iload_n 1, 1) := by decide +kernel
theorem dd_Mo_put_9 : decode cc_Mo_put 9 = .ok (.imul, 1) := by decide +kernel
theorem dd_Mo_put_10 : decode cc_Mo_put 10 = .ok (.aload_n 0, 1) := by decide +kernel
theorem dd_Mo_put_11 : decode cc_Mo_put 11 = .ok (.getfield 23, 3) := by decide +kernel
theorem dd_Mo_put_14 : decode cc_Mo_put 14 = .ok (.iload_n 1, 1) := by decide +kernel
theorem dd_Mo_put_15 : decode cc_Mo_put 15 = .ok (.iaload, 1) := by decide +kernel
theorem dd_Mo_put_16 : decode cc_Mo_put 16 = .ok (.iadd, 1) := by decide +kernel
theorem dd_Mo_put_17 : decode cc_Mo_put 17 = .ok (.istore 9, 2) := by decide +kernel
theorem dd_Mo_put_19 : decode cc_Mo_put 19 = .ok (.iload 8, 2) := by decide +kernel
theorem dd_Mo_put_21 : decode cc_Mo_put 21 = .ok (.iload 9, 2) := by decide +kernel
theorem dd_Mo_put_23 : decode cc_Mo_put 23 = .ok (.if_icmp .ge 24, 3) := by decide +kernel
theorem dd_Mo_put_26 : decode cc_Mo_put 26 = .ok (.aload_n 0, 1) := by decide +kernel
theorem dd_Mo_put_27 : decode cc_Mo_put 27 = .ok (.iload 8, 2) := by decide +kernel
theorem dd_Mo_put_29 : decode cc_Mo_put 29 = .ok (.iload_n 2, 1) := by decide +kernel
theorem dd_Mo_put_30 : decode cc_Mo_put 30 = .ok (.iload_n 3, 1) := by decide +kernel
theorem dd_Mo_put_31 : decode cc_Mo_put 31 = .ok (.iload 4, 2) := by decide +kernel
theorem dd_Mo_put_33 : decode cc_Mo_put 33 = .ok (.iload 5, 2) := by decide +kernel
theorem dd_Mo_put_35 : decode cc_Mo_put 35 = .ok (.invokevirtual 95, 3) := by decide +kernel
theorem dd_Mo_put_38 : decode cc_Mo_put 38 = .ok (.ifCond .le 9, 3) := by decide +kernel
theorem dd_Mo_put_41 : decode cc_Mo_put 41 = .ok (.iinc 8 1, 3) := by decide +kernel
theorem dd_Mo_put_44 : decode cc_Mo_put 44 = .ok (.goto (-25), 3) := by decide +kernel
theorem dd_Mo_put_47 : decode cc_Mo_put 47 = .ok (.iload 8, 2) := by decide +kernel
theorem dd_Mo_put_49 : decode cc_Mo_put 49 = .ok (.iload 9, 2) := by decide +kernel
theorem dd_Mo_put_51 : decode cc_Mo_put 51 = .ok (.if_icmp .ge 52, 3) := by decide +kernel
theorem dd_Mo_put_54 : decode cc_Mo_put 54 = .ok (.aload_n 0, 1) := by decide +kernel
theorem dd_Mo_put_55 : decode cc_Mo_put 55 = .ok (.iload 8, 2) := by decide +kernel
theorem dd_Mo_put_57 : decode cc_Mo_put 57 = .ok (.iload_n 2, 1) := by decide +kernel
theorem dd_Mo_put_58 : decode cc_Mo_put 58 = .ok (.iload_n 3, 1) := by decide +kernel
theorem dd_Mo_put_59 : decode cc_Mo_put 59 = .ok (.iload 4, 2) := by decide +kernel
theorem dd_Mo_put_61 : decode cc_Mo_put 61 = .ok (.iload 5, 2) := by decide +kernel
theorem dd_Mo_put_63 : decode cc_Mo_put 63 = .ok (.invokevirtual 95, 3) := by decide +kernel
theorem dd_Mo_put_66 : decode cc_Mo_put 66 = .ok (.ifCond .ne 37, 3) := by decide +kernel
theorem dd_Mo_put_69 : decode cc_Mo_put 69 = .ok (.aload_n 0, 1) := by decide +kernel
theorem dd_Mo_put_70 : decode cc_Mo_put 70 = .ok (.getfield 38, 3) := by decide +kernel
theorem dd_Mo_put_73 : decode cc_Mo_put 73 = .ok (.iload 8, 2) := by decide +kernel
theorem dd_Mo_put_75 : decode cc_Mo_put 75 = .ok (.lload 6, 2) := by decide +kernel
theorem dd_Mo_put_77 : decode cc_Mo_put 77 = .ok (.aload_n 0, 1) := by decide +kernel
theorem dd_Mo_put_78 : decode cc_Mo_put 78 = .ok (.getfield 38, 3) := by decide +kernel
theorem dd_Mo_put_81 : decode cc_Mo_put 81 = .ok (.iload 8, 2) := by decide +kernel
theorem dd_Mo_put_83 : decode cc_Mo_put 83 = .ok (.laload, 1) := by decide +kernel
theorem dd_Mo_put_84 : decode cc_Mo_put 84 = .ok (.lcmp, 1) := by decide +kernel
theorem dd_Mo_put_85 : decode cc_Mo_put 85 = .ok (.ifCond .ge 8, 3) := by decide +kernel
theorem dd_Mo_put_88 : decode cc_Mo_put 88 = .ok (.lload 6, 2) := by decide +kernel
theorem dd_Mo_put_90 : decode cc_Mo_put 90 = .ok (.goto 10, 3) := by decide +kernel
theorem dd_Mo_put_93 : decode cc_Mo_put 93 = .ok (.aload_n 0, 1) := by decide +kernel
theorem dd_Mo_put_94 : decode cc_Mo_put 94 = .ok (.getfield 38, 3) := by decide +kernel
theorem dd_Mo_put_97 : decode cc_Mo_put 97 = .ok (.iload 8, 2) := by decide +kernel
theorem dd_Mo_put_99 : decode cc_Mo_put 99 = .ok (.laload, 1) := by decide +kernel
theorem dd_Mo_put_100 : decode cc_Mo_put 100 = .ok (.lastore, 1) := by decide +kernel
theorem dd_Mo_put_101 : decode cc_Mo_put 101 = .ok (.iconst 1, 1) := by decide +kernel
theorem dd_Mo_put_102 : decode cc_Mo_put 102 = .ok (.ireturn, 1) := by decide +kernel
theorem dd_Mo_put_103 : decode cc_Mo_put 103 = .ok (.aload_n 0, 1) := by decide +kernel
theorem dd_Mo_put_104 : decode cc_Mo_put 104 = .ok (.getfield 23, 3) := by decide +kernel
theorem dd_Mo_put_107 : decode cc_Mo_put 107 = .ok (.iload_n 1, 1) := by decide +kernel
theorem dd_Mo_put_108 : decode cc_Mo_put 108 = .ok (.iaload, 1) := by decide +kernel
theorem dd_Mo_put_109 : decode cc_Mo_put 109 = .ok (.bipush 64, 2) := by decide +kernel
theorem dd_Mo_put_111 : decode cc_Mo_put 111 = .ok (.if_icmp .ne 5, 3) := by decide +kernel
theorem dd_Mo_put_114 : decode cc_Mo_put 114 = .ok (.iconst 0, 1) := by decide +kernel
theorem dd_Mo_put_115 : decode cc_Mo_put 115 = .ok (.ireturn, 1) := by decide +kernel
theorem dd_Mo_put_116 : decode cc_Mo_put 116 = .ok (.iload 9, 2) := by decide +kernel
theorem dd_Mo_put_118 : decode cc_Mo_put 118 = .ok (.istore 10, 2) := by decide +kernel
theorem dd_Mo_put_120 : decode cc_Mo_put 120 = .ok (.iload 10, 2) := by decide +kernel
theorem dd_Mo_put_122 : decode cc_Mo_put 122 = .ok (.iload 8, 2) := by decide +kernel
theorem dd_Mo_put_124 : decode cc_Mo_put 124 = .ok (.if_icmp .le 89, 3) := by decide +kernel
theorem dd_Mo_put_127 : decode cc_Mo_put 127 = .ok (.aload_n 0, 1) := by decide +kernel
theorem dd_Mo_put_128 : decode cc_Mo_put 128 = .ok (.getfield 26, 3) := by decide +kernel
theorem dd_Mo_put_131 : decode cc_Mo_put 131 = .ok (.iload 10, 2) := by decide +kernel
theorem dd_Mo_put_133 : decode cc_Mo_put 133 = .ok (.aload_n 0, 1) := by decide +kernel
theorem dd_Mo_put_134 : decode cc_Mo_put 134 = .ok (.getfield 26, 3) := by decide +kernel
theorem dd_Mo_put_137 : decode cc_Mo_put 137 = .ok (.iload 10, 2) := by decide +kernel
theorem dd_Mo_put_139 : decode cc_Mo_put 139 = .ok (.iconst 1, 1) := by decide +kernel
theorem dd_Mo_put_140 : decode cc_Mo_put 140 = .ok (.isub, 1) := by decide +kernel
theorem dd_Mo_put_141 : decode cc_Mo_put 141 = .ok (.iaload, 1) := by decide +kernel
theorem dd_Mo_put_142 : decode cc_Mo_put 142 = .ok (.iastore, 1) := by decide +kernel
theorem dd_Mo_put_143 : decode cc_Mo_put 143 = .ok (.aload_n 0, 1) := by decide +kernel
theorem dd_Mo_put_144 : decode cc_Mo_put 144 = .ok (.getfield 29, 3) := by decide +kernel
theorem dd_Mo_put_147 : decode cc_Mo_put 147 = .ok (.iload 10, 2) := by decide +kernel
theorem dd_Mo_put_149 : decode cc_Mo_put 149 = .ok (.aload_n 0, 1) := by decide +kernel
theorem dd_Mo_put_150 : decode cc_Mo_put 150 = .ok (.getfield 29, 3) := by decide +kernel
theorem dd_Mo_put_153 : decode cc_Mo_put 153 = .ok (.iload 10, 2) := by decide +kernel
theorem dd_Mo_put_155 : decode cc_Mo_put 155 = .ok (.iconst 1, 1) := by decide +kernel
theorem dd_Mo_put_156 : decode cc_Mo_put 156 = .ok (.isub, 1) := by decide +kernel
theorem dd_Mo_put_157 : decode cc_Mo_put 157 = .ok (.iaload, 1) := by decide +kernel
theorem dd_Mo_put_158 : decode cc_Mo_put 158 = .ok (.iastore, 1) := by decide +kernel
theorem dd_Mo_put_159 : decode cc_Mo_put 159 = .ok (.aload_n 0, 1) := by decide +kernel
theorem dd_Mo_put_160 : decode cc_Mo_put 160 = .ok (.getfield 32, 3) := by decide +kernel
theorem dd_Mo_put_163 : decode cc_Mo_put 163 = .ok (.iload 10, 2) := by decide +kernel
theorem dd_Mo_put_165 : decode cc_Mo_put 165 = .ok (.aload_n 0, 1) := by decide +kernel
theorem dd_Mo_put_166 : decode cc_Mo_put 166 = .ok (.getfield 32, 3) := by decide +kernel
theorem dd_Mo_put_169 : decode cc_Mo_put 169 = .ok (.iload 10, 2) := by decide +kernel
theorem dd_Mo_put_171 : decode cc_Mo_put 171 = .ok (.iconst 1, 1) := by decide +kernel
theorem dd_Mo_put_172 : decode cc_Mo_put 172 = .ok (.isub, 1) := by decide +kernel
theorem dd_Mo_put_173 : decode cc_Mo_put 173 = .ok (.iaload, 1) := by decide +kernel
theorem dd_Mo_put_174 : decode cc_Mo_put 174 = .ok (.iastore, 1) := by decide +kernel
theorem dd_Mo_put_175 : decode cc_Mo_put 175 = .ok (.aload_n 0, 1) := by decide +kernel
theorem dd_Mo_put_176 : decode cc_Mo_put 176 = .ok (.getfield 35, 3) := by decide +kernel
theorem dd_Mo_put_179 : decode cc_Mo_put 179 = .ok (.iload 10, 2) := by decide +kernel
theorem dd_Mo_put_181 : decode cc_Mo_put 181 = .ok (.aload_n 0, 1) := by decide +kernel
theorem dd_Mo_put_182 : decode cc_Mo_put 182 = .ok (.getfield 35, 3) := by decide +kernel
theorem dd_Mo_put_185 : decode cc_Mo_put 185 = .ok (.iload 10, 2) := by decide +kernel
theorem dd_Mo_put_187 : decode cc_Mo_put 187 = .ok (.iconst 1, 1) := by decide +kernel
theorem dd_Mo_put_188 : decode cc_Mo_put 188 = .ok (.isub, 1) := by decide +kernel
theorem dd_Mo_put_189 : decode cc_Mo_put 189 = .ok (.iaload, 1) := by decide +kernel
theorem dd_Mo_put_190 : decode cc_Mo_put 190 = .ok (.iastore, 1) := by decide +kernel
theorem dd_Mo_put_191 : decode cc_Mo_put 191 = .ok (.aload_n 0, 1) := by decide +kernel
theorem dd_Mo_put_192 : decode cc_Mo_put 192 = .ok (.getfield 38, 3) := by decide +kernel
theorem dd_Mo_put_195 : decode cc_Mo_put 195 = .ok (.iload 10, 2) := by decide +kernel
theorem dd_Mo_put_197 : decode cc_Mo_put 197 = .ok (.aload_n 0, 1) := by decide +kernel
theorem dd_Mo_put_198 : decode cc_Mo_put 198 = .ok (.getfield 38, 3) := by decide +kernel
theorem dd_Mo_put_201 : decode cc_Mo_put 201 = .ok (.iload 10, 2) := by decide +kernel
theorem dd_Mo_put_203 : decode cc_Mo_put 203 = .ok (.iconst 1, 1) := by decide +kernel
theorem dd_Mo_put_204 : decode cc_Mo_put 204 = .ok (.isub, 1) := by decide +kernel
theorem dd_Mo_put_205 : decode cc_Mo_put 205 = .ok (.laload, 1) := by decide +kernel
theorem dd_Mo_put_206 : decode cc_Mo_put 206 = .ok (.lastore, 1) := by decide +kernel
theorem dd_Mo_put_207 : decode cc_Mo_put 207 = .ok (.iinc 10 (-1), 3) := by decide +kernel
theorem dd_Mo_put_210 : decode cc_Mo_put 210 = .ok (.goto (-90), 3) := by decide +kernel
theorem dd_Mo_put_213 : decode cc_Mo_put 213 = .ok (.aload_n 0, 1) := by decide +kernel
theorem dd_Mo_put_214 : decode cc_Mo_put 214 = .ok (.getfield 26, 3) := by decide +kernel
theorem dd_Mo_put_217 : decode cc_Mo_put 217 = .ok (.iload 8, 2) := by decide +kernel
theorem dd_Mo_put_219 : decode cc_Mo_put 219 = .ok (.iload_n 2, 1) := by decide +kernel
theorem dd_Mo_put_220 : decode cc_Mo_put 220 = .ok (.iastore, 1) := by decide +kernel
theorem dd_Mo_put_221 : decode cc_Mo_put 221 = .ok (.aload_n 0, 1) := by decide +kernel
theorem dd_Mo_put_222 : decode cc_Mo_put 222 = .ok (.getfield 29, 3) := by decide +kernel
theorem dd_Mo_put_225 : decode cc_Mo_put 225 = .ok (.iload 8, 2) := by decide +kernel
theorem dd_Mo_put_227 : decode cc_Mo_put 227 = .ok (.iload_n 3, 1) := by decide +kernel
theorem dd_Mo_put_228 : decode cc_Mo_put 228 = .ok (.iastore, 1) := by decide +kernel
theorem dd_Mo_put_229 : decode cc_Mo_put 229 = .ok (.aload_n 0, 1) := by decide +kernel
theorem dd_Mo_put_230 : decode cc_Mo_put 230 = .ok (.getfield 32, 3) := by decide +kernel
theorem dd_Mo_put_233 : decode cc_Mo_put 233 = .ok (.iload 8, 2) := by decide +kernel
theorem dd_Mo_put_235 : decode cc_Mo_put 235 = .ok (.iload 4, 2) := by decide +kernel
theorem dd_Mo_put_237 : decode cc_Mo_put 237 = .ok (.iastore, 1) := by decide +kernel
theorem dd_Mo_put_238 : decode cc_Mo_put 238 = .ok (.aload_n 0, 1) := by decide +kernel
theorem dd_Mo_put_239 : decode cc_Mo_put 239 = .ok (.getfield 35, 3) := by decide +kernel
theorem dd_Mo_put_242 : decode cc_Mo_put 242 = .ok (.iload 8, 2) := by decide +kernel
theorem dd_Mo_put_244 : decode cc_Mo_put 244 = .ok (.iload 5, 2) := by decide +kernel
theorem dd_Mo_put_246 : decode cc_Mo_put 246 = .ok (.iastore, 1) := by decide +kernel
theorem dd_Mo_put_247 : decode cc_Mo_put 247 = .ok (.aload_n 0, 1) := by decide +kernel
theorem dd_Mo_put_248 : decode cc_Mo_put 248 = .ok (.getfield 38, 3) := by decide +kernel
theorem dd_Mo_put_251 : decode cc_Mo_put 251 = .ok (.iload 8, 2) := by decide +kernel
theorem dd_Mo_put_253 : decode cc_Mo_put 253 = .ok (.lload 6, 2) := by decide +kernel
theorem dd_Mo_put_255 : decode cc_Mo_put 255 = .ok (.lastore, 1) := by decide +kernel
theorem dd_Mo_put_256 : decode cc_Mo_put 256 = .ok (.aload_n 0, 1) := by decide +kernel
theorem dd_Mo_put_257 : decode cc_Mo_put 257 = .ok (.getfield 23, 3) := by decide +kernel
theorem dd_Mo_put_260 : decode cc_Mo_put 260 = .ok (.iload_n 1, 1) := by decide +kernel
theorem dd_Mo_put_261 : decode cc_Mo_put 261 = .ok (.dup2, 1) := by decide +kernel
theorem dd_Mo_put_262 : decode cc_Mo_put 262 = .ok (.iaload, 1) := by decide +kernel
theorem dd_Mo_put_263 : decode cc_Mo_put 263 = .ok (.iconst 1, 1) := by decide +kernel
theorem dd_Mo_put_264 : decode cc_Mo_put 264 = .ok (.iadd, 1) := by decide +kernel
theorem dd_Mo_put_265 : decode cc_Mo_put 265 = .ok (.iastore, 1) := by decide +kernel
theorem dd_Mo_put_266 : decode cc_Mo_put 266 = .ok (.iconst 1, 1) := by decide +kernel
theorem dd_Mo_put_267 : decode cc_Mo_put 267 = .ok (.ireturn, 1) := by decide +kernel
/-! WHAT THE REFERENCE'S ARRAYS HOLD -/
def mo_sq (q : Int32) (s : Int64) (o : Option (Nat × Nat)) : Prop := match o with
  | none => q = -1 ∧ s = -1
  | some x => q = nI x.1 ∧ s = lN x.2
def mo_a (F : mo_F) (L : mo_L) (i : Nat) (x : Nat × Nat) : Prop := F 49 i = nI (x.1 / 1024) ∧ F 50 i = nI (x.1 % 16) ∧ F 51 i = nI (x.1 / 128 % 8) ∧ F 52 i = nI (x.1 / 16 % 8) ∧ L 53 i = lN x.2
def mo_is (F : mo_F) (L : mo_L) (s : Nat) (a : am_T) : Prop := F 44 s = nI (am_n a) ∧ mo_sq (F 45 s) (L 46 s) (am_st a) ∧ (∀ q, q < 16 → L 47 (16 * s + q) = am_e (am_en a q)) ∧ F 48 s = nI (am_ar a).length ∧ (∀ j x, (am_ar a)[j]? = some x → mo_a F L (65 * s + j) x) ∧ (am_ar a).length ≤ 64
/-- all but the slot s is as it was -/
def mo_fr (s : Nat) (F : mo_F) (L : mo_L) (F2 : mo_F) (L2 : mo_L) : Prop := (∀ t, t ≠ s → F2 44 t = F 44 t ∧ F2 45 t = F 45 t ∧ L2 46 t = L 46 t ∧ F2 48 t = F 48 t) ∧ (∀ i, i < 16 * s ∨ 16 * s + 16 ≤ i → L2 47 i = L 47 i) ∧ (∀ i, i < 65 * s ∨ 65 * s + 65 ≤ i → F2 49 i = F 49 i ∧ F2 50 i = F 50 i ∧ F2 51 i = F 51 i ∧ F2 52 i = F 52 i ∧ L2 53 i = L 53 i) ∧ ∀ k, 54 ≤ k → F2 k = F k ∧ L2 k = L k
theorem mo_fr_rf {s : Nat} {F : mo_F} {L : mo_L} : mo_fr s F L F L := ⟨fun _ _ => ⟨rfl, rfl, rfl, rfl⟩, fun _ _ => rfl, fun _ _ => ⟨rfl, rfl, rfl, rfl, rfl⟩, fun _ _ => ⟨rfl, rfl⟩⟩
theorem mo_fr_tr {s : Nat} {F F1 F2 : mo_F} {L L1 L2 : mo_L} (a : mo_fr s F L F1 L1) (b : mo_fr s F1 L1 F2 L2) : mo_fr s F L F2 L2 := by
  refine ⟨fun t ht => ?_, fun i hi => (b.2.1 i hi).trans (a.2.1 i hi), fun i hi => ?_, fun k hk => ⟨(b.2.2.2 k hk).1.trans (a.2.2.2 k hk).1, (b.2.2.2 k hk).2.trans (a.2.2.2 k hk).2⟩⟩
  · have h1 := a.1 t ht
    have h2 := b.1 t ht
    exact ⟨h2.1.trans h1.1, h2.2.1.trans h1.2.1, h2.2.2.1.trans h1.2.2.1, h2.2.2.2.trans h1.2.2.2⟩
  · have h1 := a.2.2.1 i hi
    have h2 := b.2.2.1 i hi
    exact ⟨h2.1.trans h1.1, h2.2.1.trans h1.2.1, h2.2.2.1.trans h1.2.2.1, h2.2.2.2.1.trans h1.2.2.2.1, h2.2.2.2.2.trans h1.2.2.2.2⟩
theorem mo_fr_is {s t : Nat} {F F2 : mo_F} {L L2 : mo_L} {a : am_T} (h : mo_fr s F L F2 L2) (ht : t ≠ s) (ha : mo_is F L t a) : mo_is F2 L2 t a := by
  obtain ⟨h1, h2, h3, h4, h5, h6⟩ := ha
  have e := h.1 t ht
  refine ⟨e.1.trans h1, ?_, fun q hq => (h.2.1 _ (by omega)).trans (h3 q hq), e.2.2.2.trans h4, fun j x hx => ?_, h6⟩
  · rw [e.2.1, e.2.2.1]; exact h2
  · have hj := (List.getElem?_eq_some_iff.mp hx).1
    have g := h.2.2.1 (65 * t + j) (by omega)
    have hx := h5 j x hx
    exact ⟨g.1.trans hx.1, g.2.1.trans hx.2.1, g.2.2.1.trans hx.2.2.1, g.2.2.2.1.trans hx.2.2.2.1, g.2.2.2.2.trans hx.2.2.2.2⟩
theorem mo_fr_44 {s : Nat} {F F2 : mo_F} {L : mo_L} {x : Int32} (h : F2 = va_up F 44 (upd (F 44) s x)) : mo_fr s F L F2 L := ⟨fun t ht => ⟨(by rw [h, gm_us, pk_un ht]), (by rw [h, gm_un (by decide)]), rfl, (by rw [h, gm_un (by decide)])⟩, fun _ _ => rfl, fun i _ => ⟨(by rw [h, gm_un (by decide)]), (by rw [h, gm_un (by decide)]), (by rw [h, gm_un (by decide)]), (by rw [h, gm_un (by decide)]), rfl⟩, fun k hk => ⟨(by rw [h, gm_un (by omega)]), rfl⟩⟩
theorem mo_fr_45 {s : Nat} {F F2 : mo_F} {L : mo_L} {x : Int32} (h : F2 = va_up F 45 (upd (F 45) s x)) : mo_fr s F L F2 L := ⟨fun t ht => ⟨(by rw [h, gm_un (by decide)]), (by rw [h, gm_us, pk_un ht]), rfl, (by rw [h, gm_un (by decide)])⟩, fun _ _ => rfl, fun i _ => ⟨(by rw [h, gm_un (by decide)]), (by rw [h, gm_un (by decide)]), (by rw [h, gm_un (by decide)]), (by rw [h, gm_un (by decide)]), rfl⟩, fun k hk => ⟨(by rw [h, gm_un (by omega)]), rfl⟩⟩
theorem mo_fr_48 {s : Nat} {F F2 : mo_F} {L : mo_L} {x : Int32} (h : F2 = va_up F 48 (upd (F 48) s x)) : mo_fr s F L F2 L := ⟨fun t ht => ⟨(by rw [h, gm_un (by decide)]), (by rw [h, gm_un (by decide)]), rfl, (by rw [h, gm_us, pk_un ht])⟩, fun _ _ => rfl, fun i _ => ⟨(by rw [h, gm_un (by decide)]), (by rw [h, gm_un (by decide)]), (by rw [h, gm_un (by decide)]), (by rw [h, gm_un (by decide)]), rfl⟩, fun k hk => ⟨(by rw [h, gm_un (by omega)]), rfl⟩⟩
theorem mo_fr_46 {s : Nat} {F : mo_F} {L L2 : mo_L} {x : Int64} (h : L2 = va_up L 46 (vp_updL (L 46) s x)) : mo_fr s F L F L2 := ⟨fun t ht => ⟨rfl, rfl, (by rw [h, gm_us, pk_uLn ht]), rfl⟩, fun i _ => (by rw [h, gm_un (by decide)]), fun i _ => ⟨rfl, rfl, rfl, rfl, (by rw [h, gm_un (by decide)])⟩, fun k hk => ⟨rfl, (by rw [h, gm_un (by omega)])⟩⟩
theorem mo_fr_47 {s q : Nat} {F : mo_F} {L L2 : mo_L} {x : Int64} (hq : q < 16) (h : L2 = va_up L 47 (vp_updL (L 47) (16 * s + q) x)) : mo_fr s F L F L2 := ⟨fun t ht => ⟨rfl, rfl, (by rw [h, gm_un (by decide)]), rfl⟩, fun i hi => (by rw [h, gm_us, pk_uLn (by omega)]), fun i _ => ⟨rfl, rfl, rfl, rfl, (by rw [h, gm_un (by decide)])⟩, fun k hk => ⟨rfl, (by rw [h, gm_un (by omega)])⟩⟩
theorem mo_fr_49 {s j : Nat} {F F2 : mo_F} {L : mo_L} {x : Int32} (hj : j < 65) (h : F2 = va_up F 49 (upd (F 49) (65 * s + j) x)) : mo_fr s F L F2 L := ⟨fun t ht => ⟨(by rw [h, gm_un (by decide)]), (by rw [h, gm_un (by decide)]), rfl, (by rw [h, gm_un (by decide)])⟩, fun _ _ => rfl, fun i hi => ⟨(by rw [h, gm_us, pk_un (by omega)]), (by rw [h, gm_un (by decide)]), (by rw [h, gm_un (by decide)]), (by rw [h, gm_un (by decide)]), rfl⟩, fun k hk => ⟨(by rw [h, gm_un (by omega)]), rfl⟩⟩
theorem mo_fr_50 {s j : Nat} {F F2 : mo_F} {L : mo_L} {x : Int32} (hj : j < 65) (h : F2 = va_up F 50 (upd (F 50) (65 * s + j) x)) : mo_fr s F L F2 L := ⟨fun t ht => ⟨(by rw [h, gm_un (by decide)]), (by rw [h, gm_un (by decide)]), rfl, (by rw [h, gm_un (by decide)])⟩, fun _ _ => rfl, fun i hi => ⟨(by rw [h, gm_un (by decide)]), (by rw [h, gm_us, pk_un (by omega)]), (by rw [h, gm_un (by decide)]), (by rw [h, gm_un (by decide)]), rfl⟩, fun k hk => ⟨(by rw [h, gm_un (by omega)]), rfl⟩⟩
theorem mo_fr_51 {s j : Nat} {F F2 : mo_F} {L : mo_L} {x : Int32} (hj : j < 65) (h : F2 = va_up F 51 (upd (F 51) (65 * s + j) x)) : mo_fr s F L F2 L := ⟨fun t ht => ⟨(by rw [h, gm_un (by decide)]), (by rw [h, gm_un (by decide)]), rfl, (by rw [h, gm_un (by decide)])⟩, fun _ _ => rfl, fun i hi => ⟨(by rw [h, gm_un (by decide)]), (by rw [h, gm_un (by decide)]), (by rw [h, gm_us, pk_un (by omega)]), (by rw [h, gm_un (by decide)]), rfl⟩, fun k hk => ⟨(by rw [h, gm_un (by omega)]), rfl⟩⟩
theorem mo_fr_52 {s j : Nat} {F F2 : mo_F} {L : mo_L} {x : Int32} (hj : j < 65) (h : F2 = va_up F 52 (upd (F 52) (65 * s + j) x)) : mo_fr s F L F2 L := ⟨fun t ht => ⟨(by rw [h, gm_un (by decide)]), (by rw [h, gm_un (by decide)]), rfl, (by rw [h, gm_un (by decide)])⟩, fun _ _ => rfl, fun i hi => ⟨(by rw [h, gm_un (by decide)]), (by rw [h, gm_un (by decide)]), (by rw [h, gm_un (by decide)]), (by rw [h, gm_us, pk_un (by omega)]), rfl⟩, fun k hk => ⟨(by rw [h, gm_un (by omega)]), rfl⟩⟩
theorem mo_fr_53 {s j : Nat} {F : mo_F} {L L2 : mo_L} {x : Int64} (hj : j < 65) (h : L2 = va_up L 53 (vp_updL (L 53) (65 * s + j) x)) : mo_fr s F L F L2 := ⟨fun t ht => ⟨rfl, rfl, (by rw [h, gm_un (by decide)]), rfl⟩, fun i hi => (by rw [h, gm_un (by decide)]), fun i hi => ⟨rfl, rfl, rfl, rfl, (by rw [h, gm_us, pk_uLn (by omega)])⟩, fun k hk => ⟨rfl, (by rw [h, gm_un (by omega)])⟩⟩
theorem mo_34 {a : Int32} (h : a < nI 4) : a ≤ nI 3 := by
  rw [Int32.lt_iff_toInt_lt] at h
  rw [Int32.le_iff_toInt_le]
  rw [nI_toInt (by decide)] at h ⊢
  omega
theorem mo_43 {a : Int32} (h : nI 4 ≤ a) : nI 3 < a := by
  rw [Int32.le_iff_toInt_le] at h
  rw [Int32.lt_iff_toInt_lt]
  rw [nI_toInt (by decide)] at h ⊢
  omega
set_option maxRecDepth 100000 in
set_option maxHeartbeats 4000000 in
theorem ct_Mo_isSlot (l : Launch) (D : va_G) (dA : Nat → ClassId) (ws : va_W) (a : Int32) : gx_Ct l D dA yy_Mo_isSlot cc_Mo_isSlot 1 (some .boolean) 0 0 0 [.int a] ws (fun v w => v = some (.int (nI (ix 4 a).isSome.toNat)) ∧ w = ws) := by
  refine gx_of (by decide) (Nat.le_of_ble_eq_true rfl) (fun K C _ _ => ?_)
  refine gx_iload_n C 0 dd_Mo_isSlot_0 (kk := ?_)
  refine gx_if_lt C 13 dd_Mo_isSlot_1 (fun h1 => ?_) (fun h1 => ?_)
  · refine gx_iconst (v := nI 0) C dd_Mo_isSlot_13 (kk := ?_)
    refine gx_zret C dd_Mo_isSlot_14 (by first | rfl | exact fb_nar) ?_
    refine ⟨?_, rfl⟩
    rw [show ix 4 a = none from if_pos (Or.inl h1)]
    rfl
  · refine gx_iload_n C 0 dd_Mo_isSlot_4 (kk := ?_)
    refine gx_iconst (v := nI 3) C dd_Mo_isSlot_5 (kk := ?_)
    refine gx_icmp_gt C 13 dd_Mo_isSlot_6 (fun h6 => ?_) (fun h6 => ?_)
    · refine gx_iconst (v := nI 0) C dd_Mo_isSlot_13 (kk := ?_)
      refine gx_zret C dd_Mo_isSlot_14 (by first | rfl | exact fb_nar) ?_
      refine ⟨?_, rfl⟩
      rw [show ix 4 a = none from if_pos (Or.inr (Int32.not_lt.mp (fun e => absurd h6 (Int32.not_lt.mpr (mo_34 e)))))]
      rfl
    · refine gx_iconst (v := nI 1) C dd_Mo_isSlot_9 (kk := ?_)
      refine gx_goto C 14 dd_Mo_isSlot_10 (kk := ?_)
      refine gx_zret C dd_Mo_isSlot_14 (by first | rfl | exact fb_nar) ?_
      refine ⟨?_, rfl⟩
      rw [show ix 4 a = some a.toNatClampNeg from if_neg (fun e => e.elim h1 (fun e => absurd (mo_43 e) h6))]
      rfl
set_option maxRecDepth 100000 in
set_option maxHeartbeats 4000000 in
theorem ct_Mo_isWeight (l : Launch) (D : va_G) (dA : Nat → ClassId) (ws : va_W) (a : Int64) : gx_Ct l D dA yy_Mo_isWeight cc_Mo_isWeight 2 (some .boolean) 0 0 0 [.long a] ws (fun v w => v = some (.int (if a < lN 0 ∨ 1000000000 < a then nI 0 else nI 1)) ∧ w = ws) := by
  refine gx_of (by decide) (Nat.le_of_ble_eq_true rfl) (fun K C _ _ => ?_)
  refine gx_lload_n C 0 dd_Mo_isWeight_0 (kk := ?_)
  refine gx_lconst (v := lN 0) C dd_Mo_isWeight_1 (kk := ?_)
  refine gx_lcmp C dd_Mo_isWeight_2 (kk := ?_)
  refine gx_if_lt C 18 dd_Mo_isWeight_3 (fun h3 => ?_) (fun h3 => ?_)
  · refine gx_iconst (v := nI 0) C dd_Mo_isWeight_18 (kk := ?_)
    refine gx_zret C dd_Mo_isWeight_19 (by first | rfl | exact fb_nar) ?_
    refine ⟨?_, rfl⟩
    rw [lc_lt] at h3
    rw [if_pos (Or.inl h3)]
  · refine gx_lload_n C 0 dd_Mo_isWeight_6 (kk := ?_)
    refine gx_ldc2 C dd_Mo_isWeight_7 kc_Mo_85 (kk := ?_)
    refine gx_lcmp C dd_Mo_isWeight_10 (kk := ?_)
    refine gx_if_gt C 18 dd_Mo_isWeight_11 (fun h11 => ?_) (fun h11 => ?_)
    · refine gx_iconst (v := nI 0) C dd_Mo_isWeight_18 (kk := ?_)
      refine gx_zret C dd_Mo_isWeight_19 (by first | rfl | exact fb_nar) ?_
      refine ⟨?_, rfl⟩
      rw [lc_gt] at h11
      rw [if_pos (Or.inr h11)]
    · refine gx_iconst (v := nI 1) C dd_Mo_isWeight_14 (kk := ?_)
      refine gx_goto C 19 dd_Mo_isWeight_15 (kk := ?_)
      refine gx_zret C dd_Mo_isWeight_19 (by first | rfl | exact fb_nar) ?_
      refine ⟨?_, rfl⟩
      rw [lc_lt] at h3
      rw [lc_gt] at h11
      rw [if_neg (fun e => e.elim h3 h11)]
set_option maxRecDepth 100000 in
set_option maxHeartbeats 4000000 in
theorem ct_Mo_isState (l : Launch) (D : va_G) (dA : Nat → ClassId) (ad : Nat → Nat) (h : Nat → va_E) (F : mo_F) (L : mo_L) (S : Nat → Int32) {σ : sg} (hM : ∀ i, i < 4 → mo_is F L i (σ.1 i)) (s q : Int32) : gx_Ct l D dA yy_Mo_isState cc_Mo_isState 3 (some .boolean) 1 0 0 [.ref (ad 43), .int s, .int q] (gx_w ad (mo_h dA ad h F L S)) (fun v w => v = some (.int (nI (o_is σ s q).isSome.toNat)) ∧ w = (gx_w ad (mo_h dA ad h F L S))) := by
  refine gx_of (by decide) (Nat.le_of_ble_eq_true rfl) (fun K C _ _ => ?_)
  refine gx_iload_n C 1 dd_Mo_isState_0 (kk := ?_)
  refine gx_callS C (ct_Mo_isSlot (gx_l K) D dA _ s) me_Mo_isSlot ml_Mo_81 ms_Mo_isSlot dd_Mo_isState_1 (kk := fun v w hq => ?_)
  obtain ⟨rfl, rfl⟩ := hq
  rcases hi : ix 4 s with _ | i
  · refine gx_if_eq C 25 dd_Mo_isState_4 (fun h4 => ?_) (fun h4 => absurd rfl h4)
    refine gx_iconst (v := nI 0) C dd_Mo_isState_25 (kk := ?_)
    refine gx_zret C dd_Mo_isState_26 (by first | rfl | exact fb_nar) ?_
    rw [o_is, hi]
    exact ⟨rfl, rfl⟩
  · obtain ⟨hi4, rfl⟩ := ix_of (by decide) hi
    refine gx_if_eq C 25 dd_Mo_isState_4 (fun h4 => absurd (show true = false from fb_0.mp h4) (by decide)) (fun h4 => ?_)
    refine gx_iload_n C 2 dd_Mo_isState_7 (kk := ?_)
    refine gx_if_lt C 25 dd_Mo_isState_8 (fun h8 => ?_) (fun h8 => ?_)
    · refine gx_iconst (v := nI 0) C dd_Mo_isState_25 (kk := ?_)
      refine gx_zret C dd_Mo_isState_26 (by first | rfl | exact fb_nar) ?_
      rw [o_is, hi]
      show _ = some (Value.int (nI (match ix (am_n (σ.1 i)) q with | none => none | some j => some (i, j)).isSome.toNat)) ∧ _
      rw [show ix (am_n (σ.1 i)) q = none from if_pos (Or.inl h8)]
      exact ⟨rfl, rfl⟩
    · refine gx_iload_n C 2 dd_Mo_isState_11 (kk := ?_)
      refine gx_aload_n C 0 dd_Mo_isState_12 (kk := ?_)
      refine mo_get C fd_Mo_7 dd_Mo_isState_13 (kk := ?_)
      refine gx_iload_n C 1 dd_Mo_isState_16 (kk := ?_)
      refine mo_l44 C dd_Mo_isState_17 (by omega) (kk := ?_)
      refine gx_topi _ (hM i hi4).1 ?_
      refine gx_icmp_ge C 25 dd_Mo_isState_18 (fun h18 => ?_) (fun h18 => ?_)
      · refine gx_iconst (v := nI 0) C dd_Mo_isState_25 (kk := ?_)
        refine gx_zret C dd_Mo_isState_26 (by first | rfl | exact fb_nar) ?_
        rw [o_is, hi]
        show _ = some (Value.int (nI (match ix (am_n (σ.1 i)) q with | none => none | some j => some (i, j)).isSome.toNat)) ∧ _
        rw [show ix (am_n (σ.1 i)) q = none from if_pos (Or.inr h18)]
        exact ⟨rfl, rfl⟩
      · refine gx_iconst (v := nI 1) C dd_Mo_isState_21 (kk := ?_)
        refine gx_goto C 26 dd_Mo_isState_22 (kk := ?_)
        refine gx_zret C dd_Mo_isState_26 (by first | rfl | exact fb_nar) ?_
        rw [o_is, hi]
        show _ = some (Value.int (nI (match ix (am_n (σ.1 i)) q with | none => none | some j => some (i, j)).isSome.toNat)) ∧ _
        rw [show ix (am_n (σ.1 i)) q = some q.toNatClampNeg from if_neg (fun e => e.elim h8 h18)]
        exact ⟨rfl, rfl⟩
set_option maxRecDepth 100000 in
set_option maxHeartbeats 4000000 in
theorem ct_Mo_blank (l : Launch) (D : va_G) (dA : Nat → ClassId) (ad : Nat → Nat) (h : Nat → va_E) (F : mo_F) (L : mo_L) (S : Nat → Int32) {s n : Nat} (hs : s < 5) : gx_Ct l D dA yy_Mo_blank cc_Mo_blank 4 none 0 0 0 [.ref (ad 43), .int (nI s), .int (nI n)] (gx_w ad (mo_h dA ad h F L S)) (fun v w => v = none ∧ ∃ F2 L2, w = (gx_w ad (mo_h dA ad h F2 L2 S)) ∧ mo_is F2 L2 s (n, none, (fun _ => none), []) ∧ mo_fr s F L F2 L2) := by
  refine gx_of (by decide) (Nat.le_of_ble_eq_true rfl) (fun K C _ _ => ?_)
  refine gx_aload_n C 0 dd_Mo_blank_0 (kk := ?_)
  refine mo_get C fd_Mo_7 dd_Mo_blank_1 (kk := ?_)
  refine gx_iload_n C 1 dd_Mo_blank_4 (kk := ?_)
  refine gx_iload_n C 2 dd_Mo_blank_5 (kk := ?_)
  refine mo_s44 C dd_Mo_blank_6 (by omega) (kk := fun F6 hF6 => ?_)
  refine gx_aload_n C 0 dd_Mo_blank_7 (kk := ?_)
  refine mo_get C fd_Mo_13 dd_Mo_blank_8 (kk := ?_)
  refine gx_iload_n C 1 dd_Mo_blank_11 (kk := ?_)
  refine gx_iconst (v := -1) C dd_Mo_blank_12 (kk := ?_)
  refine mo_s45 C dd_Mo_blank_13 (by omega) (kk := fun F13 hF13 => ?_)
  refine gx_aload_n C 0 dd_Mo_blank_14 (kk := ?_)
  refine mo_get C fd_Mo_16 dd_Mo_blank_15 (kk := ?_)
  refine gx_iload_n C 1 dd_Mo_blank_18 (kk := ?_)
  refine gx_ldc2 C dd_Mo_blank_19 kc_Mo_79 (kk := ?_)
  refine mo_s46 C dd_Mo_blank_22 (by omega) (kk := fun L22 hL22 => ?_)
  refine gx_aload_n C 0 dd_Mo_blank_23 (kk := ?_)
  refine mo_get C fd_Mo_23 dd_Mo_blank_24 (kk := ?_)
  refine gx_iload_n C 1 dd_Mo_blank_27 (kk := ?_)
  refine gx_iconst (v := nI 0) C dd_Mo_blank_28 (kk := ?_)
  refine mo_s48 C dd_Mo_blank_29 (by omega) (kk := fun F29 hF29 => ?_)
  refine gx_iconst (v := nI 0) C dd_Mo_blank_30 (kk := ?_)
  refine gx_istore_n C _ dd_Mo_blank_31 (kk := ?_)
  have loop : ∀ m q L1, q + m = 16 → (∀ j, j < q → L1 47 (16 * s + j) = -1) → (∀ k, k ≠ 47 → L1 k = L22 k) → mo_fr s F L F29 L1 → gx_G K D 4 0 0 32 [(3, .int (nI q)), (0, .ref (ad 43)), (1, .int (nI s)), (2, .int (nI n))] [] (gx_w ad (mo_h dA ad h F29 L1 S)) (gx_Z K D dA 0 0 (fun v w => v = none ∧ ∃ F2 L2, w = (gx_w ad (mo_h dA ad h F2 L2 S)) ∧ mo_is F2 L2 s (n, none, (fun _ => none), []) ∧ mo_fr s F L F2 L2)) := by
    intro m
    induction m with
    | zero =>
      intro q L1 hq hL1 hL1k hfr
      refine gx_iload_n C 0 dd_Mo_blank_32 (kk := ?_)
      refine gx_bipush (v := nI 16) C dd_Mo_blank_33 (kk := ?_)
      refine gx_icmp_ge C 58 dd_Mo_blank_35 (fun h35 => ?_) (fun h35 => absurd (nI_le (a := 16) (b := q) (by omega) (by omega)) h35)
      refine gx_vret C dd_Mo_blank_58 ?_
      refine ⟨rfl, F29, L1, rfl, ⟨?_, ⟨?_, ?_⟩, fun j hj => hL1 j (by omega), ?_, fun j x hx => (by cases hx), Nat.zero_le _⟩, hfr⟩
      · rw [hF29, gm_un (by decide), hF13, gm_un (by decide), hF6, gm_us, pk_us]
      · rw [hF29, gm_un (by decide), hF13, gm_us, pk_us]
      · rw [hL1k 46 (by decide), hL22, gm_us, pk_uLs]
      · rw [hF29, gm_us, pk_us]; rfl
    | succ m ih =>
      intro q L1 hq hL1 hL1k hfr
      refine gx_iload_n C 0 dd_Mo_blank_32 (kk := ?_)
      refine gx_bipush (v := nI 16) C dd_Mo_blank_33 (kk := ?_)
      refine gx_icmp_ge C 58 dd_Mo_blank_35 (fun h35 => absurd h35 (nI_ge (by omega) (by omega))) (fun h35 => ?_)
      refine gx_aload_n C 1 dd_Mo_blank_38 (kk := ?_)
      refine mo_get C fd_Mo_20 dd_Mo_blank_39 (kk := ?_)
      refine gx_bipush (v := nI 16) C dd_Mo_blank_42 (kk := ?_)
      refine gx_iload_n C 2 dd_Mo_blank_44 (kk := ?_)
      refine gx_imul C dd_Mo_blank_45 (kk := ?_)
      refine gx_topi _ (pk_mul _ _) ?_
      refine gx_iload_n C 0 dd_Mo_blank_46 (kk := ?_)
      refine gx_iadd C dd_Mo_blank_47 (kk := ?_)
      refine gx_topi _ (nI_add _ _) ?_
      refine gx_ldc2 C dd_Mo_blank_48 kc_Mo_79 (kk := ?_)
      refine mo_s47 C dd_Mo_blank_51 (by omega) (kk := fun L51 hL51 => ?_)
      refine gx_iinc C 0 (nI (q + 1)) _ dd_Mo_blank_52 (nI_1 q) (kk := ?_)
      refine gx_goto C 32 dd_Mo_blank_55 (kk := ?_)
      exact ih (q + 1) L51 (by omega) (fun j hj => by
        rw [hL51, gm_us]
        by_cases hjq : j = q
        · rw [hjq, pk_uLs]
        · rw [pk_uLn (by omega)]; exact hL1 j (by omega)) (fun k hk => by rw [hL51, gm_un hk]; exact hL1k k hk) (mo_fr_tr hfr (mo_fr_47 (by omega) hL51))
  exact loop 16 0 L22 rfl (fun j hj => absurd hj (Nat.not_lt_zero _)) (fun _ _ => rfl) (mo_fr_tr (mo_fr_44 hF6) (mo_fr_tr (mo_fr_45 hF13) (mo_fr_tr (mo_fr_46 hL22) (mo_fr_48 hF29))))
theorem mo_sle {a b : Nat} (ha : a < 2 ^ 30) (hb : b < 2 ^ 30) : nI a - nI b ≤ 0 ↔ a ≤ b := by
  rw [Int32.le_iff_toInt_le, pk_sub_toInt ha hb, show (0 : Int32).toInt = 0 by decide]
  omega
theorem mo_seq {a b : Nat} (ha : a < 2 ^ 30) (hb : b < 2 ^ 30) : nI a - nI b = 0 ↔ a = b := by
  rw [← Int32.toInt_inj, pk_sub_toInt ha hb, show (0 : Int32).toInt = 0 by decide]
  omega
set_option maxRecDepth 100000 in
set_option maxHeartbeats 4000000 in
theorem ct_Mo_against (l : Launch) (D : va_G) (dA : Nat → ClassId) (ad : Nat → Nat) (h : Nat → va_E) (F : mo_F) (L : mo_L) (S : Nat → Int32) {k f t i o : Nat} {x : Nat × Nat} (hk : k < 325) (hx : mo_a F L k x) (hxb : x.1 < 16384) (hf : f < 16) (ht : t < 16) (hi : i < 8) (ho : o < 8) : gx_Ct l D dA yy_Mo_against cc_Mo_against 7 (some .int) 0 0 0 [.ref (ad 43), .int (nI k), .int (nI f), .int (nI t), .int (nI i), .int (nI o)] (gx_w ad (mo_h dA ad h F L S)) (fun v w => ∃ d : Int32, v = some (.int d) ∧ (d ≤ 0 ↔ pr_k f i o t ≤ x.1) ∧ (d = 0 ↔ pr_k f i o t = x.1) ∧ w = (gx_w ad (mo_h dA ad h F L S))) := by
  refine gx_of (by decide) (Nat.le_of_ble_eq_true rfl) (fun K C _ _ => ?_)
  refine gx_iload_n C 2 dd_Mo_against_0 (kk := ?_)
  refine gx_aload_n C 0 dd_Mo_against_1 (kk := ?_)
  refine mo_get C fd_Mo_26 dd_Mo_against_2 (kk := ?_)
  refine gx_iload_n C 1 dd_Mo_against_5 (kk := ?_)
  refine mo_l49 C dd_Mo_against_6 (by omega) (kk := ?_)
  refine gx_topi _ hx.1 ?_
  refine gx_icmp_eq C 21 dd_Mo_against_7 (fun h7 => ?_) (fun h7 => ?_)
  · refine gx_iload C 4 dd_Mo_against_21 (kk := ?_)
    refine gx_aload_n C 0 dd_Mo_against_23 (kk := ?_)
    refine mo_get C fd_Mo_32 dd_Mo_against_24 (kk := ?_)
    refine gx_iload_n C 1 dd_Mo_against_27 (kk := ?_)
    refine mo_l51 C dd_Mo_against_28 (by omega) (kk := ?_)
    refine gx_topi _ hx.2.2.1 ?_
    refine gx_icmp_eq C 44 dd_Mo_against_29 (fun h29 => ?_) (fun h29 => ?_)
    · refine gx_iload C 5 dd_Mo_against_44 (kk := ?_)
      refine gx_aload_n C 0 dd_Mo_against_46 (kk := ?_)
      refine mo_get C fd_Mo_35 dd_Mo_against_47 (kk := ?_)
      refine gx_iload_n C 1 dd_Mo_against_50 (kk := ?_)
      refine mo_l52 C dd_Mo_against_51 (by omega) (kk := ?_)
      refine gx_topi _ hx.2.2.2.1 ?_
      refine gx_icmp_eq C 67 dd_Mo_against_52 (fun h52 => ?_) (fun h52 => ?_)
      · refine gx_iload_n C 3 dd_Mo_against_67 (kk := ?_)
        refine gx_aload_n C 0 dd_Mo_against_68 (kk := ?_)
        refine mo_get C fd_Mo_29 dd_Mo_against_69 (kk := ?_)
        refine gx_iload_n C 1 dd_Mo_against_72 (kk := ?_)
        refine mo_l50 C dd_Mo_against_73 (by omega) (kk := ?_)
        refine gx_topi _ hx.2.1 ?_
        refine gx_isub C dd_Mo_against_74 (kk := ?_)
        refine gx_istore C _ dd_Mo_against_75 (kk := ?_)
        refine gx_iload C 0 dd_Mo_against_77 (kk := ?_)
        refine gx_iret C dd_Mo_against_79 ?_
        rw [nI_eq (by omega) (by omega)] at h7
        rw [nI_eq (by omega) (by omega)] at h29
        rw [nI_eq (by omega) (by omega)] at h52
        refine ⟨_, rfl, ?_, ?_, rfl⟩
        · rw [mo_sle (by omega) (by omega)]; unfold pr_k; omega
        · rw [mo_seq (by omega) (by omega)]; unfold pr_k; omega
      · refine gx_iload C 5 dd_Mo_against_55 (kk := ?_)
        refine gx_aload_n C 0 dd_Mo_against_57 (kk := ?_)
        refine mo_get C fd_Mo_35 dd_Mo_against_58 (kk := ?_)
        refine gx_iload_n C 1 dd_Mo_against_61 (kk := ?_)
        refine mo_l52 C dd_Mo_against_62 (by omega) (kk := ?_)
        refine gx_topi _ hx.2.2.2.1 ?_
        refine gx_isub C dd_Mo_against_63 (kk := ?_)
        refine gx_goto C 75 dd_Mo_against_64 (kk := ?_)
        refine gx_istore C _ dd_Mo_against_75 (kk := ?_)
        refine gx_iload C 0 dd_Mo_against_77 (kk := ?_)
        refine gx_iret C dd_Mo_against_79 ?_
        rw [nI_eq (by omega) (by omega)] at h7
        rw [nI_eq (by omega) (by omega)] at h29
        rw [nI_eq (by omega) (by omega)] at h52
        refine ⟨_, rfl, ?_, ?_, rfl⟩
        · rw [mo_sle (by omega) (by omega)]; unfold pr_k; omega
        · rw [mo_seq (by omega) (by omega)]; unfold pr_k; omega
    · refine gx_iload C 4 dd_Mo_against_32 (kk := ?_)
      refine gx_aload_n C 0 dd_Mo_against_34 (kk := ?_)
      refine mo_get C fd_Mo_32 dd_Mo_against_35 (kk := ?_)
      refine gx_iload_n C 1 dd_Mo_against_38 (kk := ?_)
      refine mo_l51 C dd_Mo_against_39 (by omega) (kk := ?_)
      refine gx_topi _ hx.2.2.1 ?_
      refine gx_isub C dd_Mo_against_40 (kk := ?_)
      refine gx_goto C 75 dd_Mo_against_41 (kk := ?_)
      refine gx_istore C _ dd_Mo_against_75 (kk := ?_)
      refine gx_iload C 0 dd_Mo_against_77 (kk := ?_)
      refine gx_iret C dd_Mo_against_79 ?_
      rw [nI_eq (by omega) (by omega)] at h7
      rw [nI_eq (by omega) (by omega)] at h29
      refine ⟨_, rfl, ?_, ?_, rfl⟩
      · rw [mo_sle (by omega) (by omega)]; unfold pr_k; omega
      · rw [mo_seq (by omega) (by omega)]; unfold pr_k; omega
  · refine gx_iload_n C 2 dd_Mo_against_10 (kk := ?_)
    refine gx_aload_n C 0 dd_Mo_against_11 (kk := ?_)
    refine mo_get C fd_Mo_26 dd_Mo_against_12 (kk := ?_)
    refine gx_iload_n C 1 dd_Mo_against_15 (kk := ?_)
    refine mo_l49 C dd_Mo_against_16 (by omega) (kk := ?_)
    refine gx_topi _ hx.1 ?_
    refine gx_isub C dd_Mo_against_17 (kk := ?_)
    refine gx_goto C 75 dd_Mo_against_18 (kk := ?_)
    refine gx_istore C _ dd_Mo_against_75 (kk := ?_)
    refine gx_iload C 0 dd_Mo_against_77 (kk := ?_)
    refine gx_iret C dd_Mo_against_79 ?_
    rw [nI_eq (by omega) (by omega)] at h7
    refine ⟨_, rfl, ?_, ?_, rfl⟩
    · rw [mo_sle (by omega) (by omega)]; unfold pr_k; omega
    · rw [mo_seq (by omega) (by omega)]; unfold pr_k; omega
