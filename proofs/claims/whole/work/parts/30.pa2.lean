theorem dd_Pa_readSize_0 : decode cc_Pa_readSize 0 = .ok (.aload_n 0, 1) := by decide +kernel
theorem dd_Pa_readSize_1 : decode cc_Pa_readSize 1 = .ok (.bipush 110, 2) := by decide +kernel
theorem dd_Pa_readSize_3 : decode cc_Pa_readSize 3 = .ok (.invokevirtual 35, 3) := by decide +kernel
theorem dd_Pa_readSize_6 : decode cc_Pa_readSize 6 = .ok (.istore_n 1, 1) := by decide +kernel
theorem dd_Pa_readSize_7 : decode cc_Pa_readSize 7 = .ok (.iload_n 1, 1) := by decide +kernel
theorem dd_Pa_readSize_8 : decode cc_Pa_readSize 8 = .ok (.ifCond .eq 7, 3) := by decide +kernel
theorem dd_Pa_readSize_11 : decode cc_Pa_readSize 11 = .ok (.iload_n 1, 1) := by decide +kernel
theorem dd_Pa_readSize_12 : decode cc_Pa_readSize 12 = .ok (.goto 10, 3) := by decide +kernel
theorem dd_Pa_readSize_15 : decode cc_Pa_readSize 15 = .ok (.aload_n 0, 1) := by decide +kernel
theorem dd_Pa_readSize_16 : decode cc_Pa_readSize 16 = .ok (.ldc2_w 39, 3) := by decide +kernel
theorem dd_Pa_readSize_19 : decode cc_Pa_readSize 19 = .ok (.invokevirtual 41, 3) := by decide +kernel
theorem dd_Pa_readSize_22 : decode cc_Pa_readSize 22 = .ok (.istore_n 1, 1) := by decide +kernel
theorem dd_Pa_readSize_23 : decode cc_Pa_readSize 23 = .ok (.iload_n 1, 1) := by decide +kernel
theorem dd_Pa_readSize_24 : decode cc_Pa_readSize 24 = .ok (.ifCond .eq 7, 3) := by decide +kernel
theorem dd_Pa_readSize_27 : decode cc_Pa_readSize 27 = .ok (.iload_n 1, 1) := by decide +kernel
theorem dd_Pa_readSize_28 : decode cc_Pa_readSize 28 = .ok (.goto 9, 3) := by decide +kernel
theorem dd_Pa_readSize_31 : decode cc_Pa_readSize 31 = .ok (.aload_n 0, 1) := by decide +kernel
theorem dd_Pa_readSize_32 : decode cc_Pa_readSize 32 = .ok (.bipush 59, 2) := by decide +kernel
theorem dd_Pa_readSize_34 : decode cc_Pa_readSize 34 = .ok (.invokevirtual 35, 3) := by decide +kernel
theorem dd_Pa_readSize_37 : decode cc_Pa_readSize 37 = .ok (.istore_n 1, 1) := by decide +kernel
theorem dd_Pa_readSize_38 : decode cc_Pa_readSize 38 = .ok (.iload_n 1, 1) := by decide +kernel
theorem dd_Pa_readSize_39 : decode cc_Pa_readSize 39 = .ok (.ifCond .ne 15, 3) := by decide +kernel
theorem dd_Pa_readSize_42 : decode cc_Pa_readSize 42 = .ok (.aload_n 0, 1) := by decide +kernel
theorem dd_Pa_readSize_43 : decode cc_Pa_readSize 43 = .ok (.getfield 15, 3) := by decide +kernel
theorem dd_Pa_readSize_46 : decode cc_Pa_readSize 46 = .ok (.aload_n 0, 1) := by decide +kernel
theorem dd_Pa_readSize_47 : decode cc_Pa_readSize 47 = .ok (.getfield 45, 3) := by decide +kernel
theorem dd_Pa_readSize_50 : decode cc_Pa_readSize 50 = .ok (.l2i, 1) := by decide +kernel
theorem dd_Pa_readSize_51 : decode cc_Pa_readSize 51 = .ok (.invokevirtual 49, 3) := by decide +kernel
theorem dd_Pa_readSize_54 : decode cc_Pa_readSize 54 = .ok (.iload_n 1, 1) := by decide +kernel
theorem dd_Pa_readSize_55 : decode cc_Pa_readSize 55 = .ok (.ireturn, 1) := by decide +kernel
theorem dd_Pa_readStart_0 : decode cc_Pa_readStart 0 = .ok (.aload_n 0, 1) := by decide +kernel
theorem dd_Pa_readStart_1 : decode cc_Pa_readStart 1 = .ok (.invokevirtual 68, 3) := by decide +kernel
theorem dd_Pa_readStart_4 : decode cc_Pa_readStart 4 = .ok (.istore_n 1, 1) := by decide +kernel
theorem dd_Pa_readStart_5 : decode cc_Pa_readStart 5 = .ok (.aload_n 0, 1) := by decide +kernel
theorem dd_Pa_readStart_6 : decode cc_Pa_readStart 6 = .ok (.getfield 45, 3) := by decide +kernel
theorem dd_Pa_readStart_9 : decode cc_Pa_readStart 9 = .ok (.l2i, 1) := by decide +kernel
theorem dd_Pa_readStart_10 : decode cc_Pa_readStart 10 = .ok (.istore_n 2, 1) := by decide +kernel
theorem dd_Pa_readStart_11 : decode cc_Pa_readStart 11 = .ok (.iload_n 1, 1) := by decide +kernel
theorem dd_Pa_readStart_12 : decode cc_Pa_readStart 12 = .ok (.ifCond .ne 17, 3) := by decide +kernel
theorem dd_Pa_readStart_15 : decode cc_Pa_readStart 15 = .ok (.aload_n 0, 1) := by decide +kernel
theorem dd_Pa_readStart_16 : decode cc_Pa_readStart 16 = .ok (.getfield 15, 3) := by decide +kernel
theorem dd_Pa_readStart_19 : decode cc_Pa_readStart 19 = .ok (.getfield 71, 3) := by decide +kernel
theorem dd_Pa_readStart_22 : decode cc_Pa_readStart 22 = .ok (.iconst (-1), 1) := by decide +kernel
theorem dd_Pa_readStart_23 : decode cc_Pa_readStart 23 = .ok (.if_icmp .eq 6, 3) := by decide +kernel
theorem dd_Pa_readStart_26 : decode cc_Pa_readStart 26 = .ok (.bipush (-6), 2) := by decide +kernel
theorem dd_Pa_readStart_28 : decode cc_Pa_readStart 28 = .ok (.istore_n 1, 1) := by decide +kernel
theorem dd_Pa_readStart_29 : decode cc_Pa_readStart 29 = .ok (.iload_n 1, 1) := by decide +kernel
theorem dd_Pa_readStart_30 : decode cc_Pa_readStart 30 = .ok (.ifCond .eq 7, 3) := by decide +kernel
theorem dd_Pa_readStart_33 : decode cc_Pa_readStart 33 = .ok (.iload_n 1, 1) := by decide +kernel
theorem dd_Pa_readStart_34 : decode cc_Pa_readStart 34 = .ok (.goto 7, 3) := by decide +kernel
theorem dd_Pa_readStart_37 : decode cc_Pa_readStart 37 = .ok (.aload_n 0, 1) := by decide +kernel
theorem dd_Pa_readStart_38 : decode cc_Pa_readStart 38 = .ok (.invokevirtual 74, 3) := by decide +kernel
theorem dd_Pa_readStart_41 : decode cc_Pa_readStart 41 = .ok (.istore_n 1, 1) := by decide +kernel
theorem dd_Pa_readStart_42 : decode cc_Pa_readStart 42 = .ok (.iload_n 1, 1) := by decide +kernel
theorem dd_Pa_readStart_43 : decode cc_Pa_readStart 43 = .ok (.ifCond .ne 15, 3) := by decide +kernel
theorem dd_Pa_readStart_46 : decode cc_Pa_readStart 46 = .ok (.aload_n 0, 1) := by decide +kernel
theorem dd_Pa_readStart_47 : decode cc_Pa_readStart 47 = .ok (.getfield 15, 3) := by decide +kernel
theorem dd_Pa_readStart_50 : decode cc_Pa_readStart 50 = .ok (.iload_n 2, 1) := by decide +kernel
theorem dd_Pa_readStart_51 : decode cc_Pa_readStart 51 = .ok (.aload_n 0, 1) := by decide +kernel
theorem dd_Pa_readStart_52 : decode cc_Pa_readStart 52 = .ok (.getfield 45, 3) := by decide +kernel
theorem dd_Pa_readStart_55 : decode cc_Pa_readStart 55 = .ok (.invokevirtual 77, 3) := by decide +kernel
theorem dd_Pa_readStart_58 : decode cc_Pa_readStart 58 = .ok (.iload_n 1, 1) := by decide +kernel
theorem dd_Pa_readStart_59 : decode cc_Pa_readStart 59 = .ok (.ireturn, 1) := by decide +kernel
theorem dd_Pa_readEnd_0 : decode cc_Pa_readEnd 0 = .ok (.aload_n 0, 1) := by decide +kernel
theorem dd_Pa_readEnd_1 : decode cc_Pa_readEnd 1 = .ok (.invokevirtual 68, 3) := by decide +kernel
theorem dd_Pa_readEnd_4 : decode cc_Pa_readEnd 4 = .ok (.istore_n 1, 1) := by decide +kernel
theorem dd_Pa_readEnd_5 : decode cc_Pa_readEnd 5 = .ok (.aload_n 0, 1) := by decide +kernel
theorem dd_Pa_readEnd_6 : decode cc_Pa_readEnd 6 = .ok (.getfield 45, 3) := by decide +kernel
theorem dd_Pa_readEnd_9 : decode cc_Pa_readEnd 9 = .ok (.l2i, 1) := by decide +kernel
theorem dd_Pa_readEnd_10 : decode cc_Pa_readEnd 10 = .ok (.istore_n 2, 1) := by decide +kernel
theorem dd_Pa_readEnd_11 : decode cc_Pa_readEnd 11 = .ok (.iload_n 1, 1) := by decide +kernel
theorem dd_Pa_readEnd_12 : decode cc_Pa_readEnd 12 = .ok (.ifCond .ne 22, 3) := by decide +kernel
theorem dd_Pa_readEnd_15 : decode cc_Pa_readEnd 15 = .ok (.aload_n 0, 1) := by decide +kernel
theorem dd_Pa_readEnd_16 : decode cc_Pa_readEnd 16 = .ok (.getfield 15, 3) := by decide +kernel
theorem dd_Pa_readEnd_19 : decode cc_Pa_readEnd 19 = .ok (.getfield 81, 3) := by decide +kernel
theorem dd_Pa_readEnd_22 : decode cc_Pa_readEnd 22 = .ok (.iload_n 2, 1) := by decide +kernel
theorem dd_Pa_readEnd_23 : decode cc_Pa_readEnd 23 = .ok (.laload, 1) := by decide +kernel
theorem dd_Pa_readEnd_24 : decode cc_Pa_readEnd 24 = .ok (.ldc2_w 85, 3) := by decide +kernel
theorem dd_Pa_readEnd_27 : decode cc_Pa_readEnd 27 = .ok (.lcmp, 1) := by decide +kernel
theorem dd_Pa_readEnd_28 : decode cc_Pa_readEnd 28 = .ok (.ifCond .eq 6, 3) := by decide +kernel
theorem dd_Pa_readEnd_31 : decode cc_Pa_readEnd 31 = .ok (.bipush (-6), 2) := by decide +kernel
theorem dd_Pa_readEnd_33 : decode cc_Pa_readEnd 33 = .ok (.istore_n 1, 1) := by decide +kernel
theorem dd_Pa_readEnd_34 : decode cc_Pa_readEnd 34 = .ok (.iload_n 1, 1) := by decide +kernel
theorem dd_Pa_readEnd_35 : decode cc_Pa_readEnd 35 = .ok (.ifCond .eq 7, 3) := by decide +kernel
theorem dd_Pa_readEnd_38 : decode cc_Pa_readEnd 38 = .ok (.iload_n 1, 1) := by decide +kernel
theorem dd_Pa_readEnd_39 : decode cc_Pa_readEnd 39 = .ok (.goto 7, 3) := by decide +kernel
theorem dd_Pa_readEnd_42 : decode cc_Pa_readEnd 42 = .ok (.aload_n 0, 1) := by decide +kernel
theorem dd_Pa_readEnd_43 : decode cc_Pa_readEnd 43 = .ok (.invokevirtual 74, 3) := by decide +kernel
theorem dd_Pa_readEnd_46 : decode cc_Pa_readEnd 46 = .ok (.istore_n 1, 1) := by decide +kernel
theorem dd_Pa_readEnd_47 : decode cc_Pa_readEnd 47 = .ok (.iload_n 1, 1) := by decide +kernel
theorem dd_Pa_readEnd_48 : decode cc_Pa_readEnd 48 = .ok (.ifCond .ne 16, 3) := by decide +kernel
theorem dd_Pa_readEnd_51 : decode cc_Pa_readEnd 51 = .ok (.aload_n 0, 1) := by decide +kernel
theorem dd_Pa_readEnd_52 : decode cc_Pa_readEnd 52 = .ok (.getfield 15, 3) := by decide +kernel
theorem dd_Pa_readEnd_55 : decode cc_Pa_readEnd 55 = .ok (.getfield 81, 3) := by decide +kernel
theorem dd_Pa_readEnd_58 : decode cc_Pa_readEnd 58 = .ok (.iload_n 2, 1) := by decide +kernel
theorem dd_Pa_readEnd_59 : decode cc_Pa_readEnd 59 = .ok (.aload_n 0, 1) := by decide +kernel
theorem dd_Pa_readEnd_60 : decode cc_Pa_readEnd 60 = .ok (.getfield 45, 3) := by decide +kernel
theorem dd_Pa_readEnd_63 : decode cc_Pa_readEnd 63 = .ok (.lastore, 1) := by decide +kernel
theorem dd_Pa_readEnd_64 : decode cc_Pa_readEnd 64 = .ok (.iload_n 1, 1) := by decide +kernel
theorem dd_Pa_readEnd_65 : decode cc_Pa_readEnd 65 = .ok (.ireturn, 1) := by decide +kernel
theorem dd_Pa_readArc_0 : decode cc_Pa_readArc 0 = .ok (.aload_n 0, 1) := by decide +kernel
theorem dd_Pa_readArc_1 : decode cc_Pa_readArc 1 = .ok (.invokevirtual 68, 3) := by decide +kernel
theorem dd_Pa_readArc_4 : decode cc_Pa_readArc 4 = .ok (.istore_n 1, 1) := by decide +kernel
theorem dd_Pa_readArc_5 : decode cc_Pa_readArc 5 = .ok (.aload_n 0, 1) := by decide +kernel
theorem dd_Pa_readArc_6 : decode cc_Pa_readArc 6 = .ok (.getfield 45, 3) := by decide +kernel
theorem dd_Pa_readArc_9 : decode cc_Pa_readArc 9 = .ok (.l2i, 1) := by decide +kernel
theorem dd_Pa_readArc_10 : decode cc_Pa_readArc 10 = .ok (.istore_n 2, 1) := by decide +kernel
theorem dd_Pa_readArc_11 : decode cc_Pa_readArc 11 = .ok (.iload_n 1, 1) := by decide +kernel
theorem dd_Pa_readArc_12 : decode cc_Pa_readArc 12 = .ok (.ifCond .eq 7, 3) := by decide +kernel
theorem dd_Pa_readArc_15 : decode cc_Pa_readArc 15 = .ok (.iload_n 1, 1) := by decide +kernel
theorem dd_Pa_readArc_16 : decode cc_Pa_readArc 16 = .ok (.goto 9, 3) := by decide +kernel
theorem dd_Pa_readArc_19 : decode cc_Pa_readArc 19 = .ok (.aload_n 0, 1) := by decide +kernel
theorem dd_Pa_readArc_20 : decode cc_Pa_readArc 20 = .ok (.bipush 45, 2) := by decide +kernel
theorem dd_Pa_readArc_22 : decode cc_Pa_readArc 22 = .ok (.invokevirtual 35, 3) := by decide +kernel
theorem dd_Pa_readArc_25 : decode cc_Pa_readArc 25 = .ok (.istore_n 1, 1) := by decide +kernel
theorem dd_Pa_readArc_26 : decode cc_Pa_readArc 26 = .ok (.iload_n 1, 1) := by decide +kernel
theorem dd_Pa_readArc_27 : decode cc_Pa_readArc 27 = .ok (.ifCond .eq 7, 3) := by decide +kernel
theorem dd_Pa_readArc_30 : decode cc_Pa_readArc 30 = .ok (.iload_n 1, 1) := by decide +kernel
theorem dd_Pa_readArc_31 : decode cc_Pa_readArc 31 = .ok (.goto 7, 3) := by decide +kernel
theorem dd_Pa_readArc_34 : decode cc_Pa_readArc 34 = .ok (.aload_n 0, 1) := by decide +kernel
theorem dd_Pa_readArc_35 : decode cc_Pa_readArc 35 = .ok (.invokevirtual 68, 3) := by decide +kernel
theorem dd_Pa_readArc_38 : decode cc_Pa_readArc 38 = .ok (.istore_n 1, 1) := by decide +kernel
theorem dd_Pa_readArc_39 : decode cc_Pa_readArc 39 = .ok (.aload_n 0, 1) := by decide +kernel
theorem dd_Pa_readArc_40 : decode cc_Pa_readArc 40 = .ok (.getfield 45, 3) := by decide +kernel
theorem dd_Pa_readArc_43 : decode cc_Pa_readArc 43 = .ok (.l2i, 1) := by decide +kernel
theorem dd_Pa_readArc_44 : decode cc_Pa_readArc 44 = .ok (.istore_n 3, 1) := by decide +kernel
theorem dd_Pa_readArc_45 : decode cc_Pa_readArc 45 = .ok (.iload_n 1, 1) := by decide +kernel
theorem dd_Pa_readArc_46 : decode cc_Pa_readArc 46 = .ok (.ifCond .eq 7, 3) := by decide +kernel
theorem dd_Pa_readArc_49 : decode cc_Pa_readArc 49 = .ok (.iload_n 1, 1) := by decide +kernel
theorem dd_Pa_readArc_50 : decode cc_Pa_readArc 50 = .ok (.goto 9, 3) := by decide +kernel
theorem dd_Pa_readArc_53 : decode cc_Pa_readArc 53 = .ok (.aload_n 0, 1) := by decide +kernel
theorem dd_Pa_readArc_54 : decode cc_Pa_readArc 54 = .ok (.bipush 58, 2) := by decide +kernel
theorem dd_Pa_readArc_56 : decode cc_Pa_readArc 56 = .ok (.invokevirtual 35, 3) := by decide +kernel
theorem dd_Pa_readArc_59 : decode cc_Pa_readArc 59 = .ok (.istore_n 1, 1) := by decide +kernel
theorem dd_Pa_readArc_60 : decode cc_Pa_readArc 60 = .ok (.iload_n 1, 1) := by decide +kernel
theorem dd_Pa_readArc_61 : decode cc_Pa_readArc 61 = .ok (.ifCond .eq 7, 3) := by decide +kernel
theorem dd_Pa_readArc_64 : decode cc_Pa_readArc 64 = .ok (.iload_n 1, 1) := by decide +kernel
theorem dd_Pa_readArc_65 : decode cc_Pa_readArc 65 = .ok (.goto 7, 3) := by decide +kernel
theorem dd_Pa_readArc_68 : decode cc_Pa_readArc 68 = .ok (.aload_n 0, 1) := by decide +kernel
theorem dd_Pa_readArc_69 : decode cc_Pa_readArc 69 = .ok (.invokevirtual 87, 3) := by decide +kernel
theorem dd_Pa_readArc_72 : decode cc_Pa_readArc 72 = .ok (.istore_n 1, 1) := by decide +kernel
theorem dd_Pa_readArc_73 : decode cc_Pa_readArc 73 = .ok (.aload_n 0, 1) := by decide +kernel
theorem dd_Pa_readArc_74 : decode cc_Pa_readArc 74 = .ok (.getfield 45, 3) := by decide +kernel
theorem dd_Pa_readArc_77 : decode cc_Pa_readArc 77 = .ok (.l2i, 1) := by decide +kernel
theorem dd_Pa_readArc_78 : decode cc_Pa_readArc 78 = .ok (.istore 4, 2) := by decide +kernel
theorem dd_Pa_readArc_80 : decode cc_Pa_readArc 80 = .ok (.iload_n 1, 1) := by decide +kernel
theorem dd_Pa_readArc_81 : decode cc_Pa_readArc 81 = .ok (.ifCond .eq 7, 3) := by decide +kernel
theorem dd_Pa_readArc_84 : decode cc_Pa_readArc 84 = .ok (.iload_n 1, 1) := by decide +kernel
theorem dd_Pa_readArc_85 : decode cc_Pa_readArc 85 = .ok (.goto 7, 3) := by decide +kernel
theorem dd_Pa_readArc_88 : decode cc_Pa_readArc 88 = .ok (.aload_n 0, 1) := by decide +kernel
theorem dd_Pa_readArc_89 : decode cc_Pa_readArc 89 = .ok (.invokevirtual 87, 3) := by decide +kernel
theorem dd_Pa_readArc_92 : decode cc_Pa_readArc 92 = .ok (.istore_n 1, 1) := by decide +kernel
theorem dd_Pa_readArc_93 : decode cc_Pa_readArc 93 = .ok (.aload_n 0, 1) := by decide +kernel
theorem dd_Pa_readArc_94 : decode cc_Pa_readArc 94 = .ok (.getfield 45, 3) := by decide +kernel
theorem dd_Pa_readArc_97 : decode cc_Pa_readArc 97 = .ok (.l2i, 1) := by decide +kernel
theorem dd_Pa_readArc_98 : decode cc_Pa_readArc 98 = .ok (.istore 5, 2) := by decide +kernel
theorem dd_Pa_readArc_100 : decode cc_Pa_readArc 100 = .ok (.iload_n 1, 1) := by decide +kernel
theorem dd_Pa_readArc_101 : decode cc_Pa_readArc 101 = .ok (.ifCond .eq 7, 3) := by decide +kernel
theorem dd_Pa_readArc_104 : decode cc_Pa_readArc 104 = .ok (.iload_n 1, 1) := by decide +kernel
theorem dd_Pa_readArc_105 : decode cc_Pa_readArc 105 = .ok (.goto 7, 3) := by decide +kernel
theorem dd_Pa_readArc_108 : decode cc_Pa_readArc 108 = .ok (.aload_n 0, 1) := by decide +kernel
theorem dd_Pa_readArc_109 : decode cc_Pa_readArc 109 = .ok (.invokevirtual 74, 3) := by decide +kernel
theorem dd_Pa_readArc_112 : decode cc_Pa_readArc 112 = .ok (.istore_n 1, 1) := by decide +kernel
theorem dd_Pa_readArc_113 : decode cc_Pa_readArc 113 = .ok (.iload_n 1, 1) := by decide +kernel
theorem dd_Pa_readArc_114 : decode cc_Pa_readArc 114 = .ok (.ifCond .ne 32, 3) := by decide +kernel
theorem dd_Pa_readArc_117 : decode cc_Pa_readArc 117 = .ok (.aload_n 0, 1) := by decide +kernel
theorem dd_Pa_readArc_118 : decode cc_Pa_readArc 118 = .ok (.getfield 15, 3) := by decide +kernel
theorem dd_Pa_readArc_121 : decode cc_Pa_readArc 121 = .ok (.iload_n 2, 1) := by decide +kernel
theorem dd_Pa_readArc_122 : decode cc_Pa_readArc 122 = .ok (.iload 4, 2) := by decide +kernel
theorem dd_Pa_readArc_124 : decode cc_Pa_readArc 124 = .ok (.iload 5, 2) := by decide +kernel
theorem dd_Pa_readArc_126 : decode cc_Pa_readArc 126 = .ok (.invokestatic 90, 3) := by decide +kernel
theorem dd_Pa_readArc_129 : decode cc_Pa_readArc 129 = .ok (.iload_n 3, 1) := by decide +kernel
theorem dd_Pa_readArc_130 : decode cc_Pa_readArc 130 = .ok (.invokestatic 94, 3) := by decide +kernel
theorem dd_Pa_readArc_133 : decode cc_Pa_readArc 133 = .ok (.aload_n 0, 1) := by decide +kernel
theorem dd_Pa_readArc_134 : decode cc_Pa_readArc 134 = .ok (.getfield 45, 3) := by decide +kernel
theorem dd_Pa_readArc_137 : decode cc_Pa_readArc 137 = .ok (.invokevirtual 98, 3) := by decide +kernel
theorem dd_Pa_readArc_140 : decode cc_Pa_readArc 140 = .ok (.ifCond .ne 6, 3) := by decide +kernel
theorem dd_Pa_readArc_143 : decode cc_Pa_readArc 143 = .ok (.bipush (-2), 2) := by decide +kernel
theorem dd_Pa_readArc_145 : decode cc_Pa_readArc 145 = .ok (.istore_n 1, 1) := by decide +kernel
theorem dd_Pa_readArc_146 : decode cc_Pa_readArc 146 = .ok (.iload_n 1, 1) := by decide +kernel
theorem dd_Pa_readArc_147 : decode cc_Pa_readArc 147 = .ok (.ireturn, 1) := by decide +kernel
theorem dd_Pa_readItem_0 : decode cc_Pa_readItem 0 = .ok (.aload_n 0, 1) := by decide +kernel
theorem dd_Pa_readItem_1 : decode cc_Pa_readItem 1 = .ok (.getfield 9, 3) := by decide +kernel
theorem dd_Pa_readItem_4 : decode cc_Pa_readItem 4 = .ok (.aload_n 0, 1) := by decide +kernel
theorem dd_Pa_readItem_5 : decode cc_Pa_readItem 5 = .ok (.getfield 19, 3) := by decide +kernel
theorem dd_Pa_readItem_8 : decode cc_Pa_readItem 8 = .ok (.invokevirtual 55, 3) := by decide +kernel
theorem dd_Pa_readItem_11 : decode cc_Pa_readItem 11 = .ok (.lookupswitch 55 #[(102, 40), (115, 25)], 25) := by decide +kernel
theorem dd_Pa_readItem_36 : decode cc_Pa_readItem 36 = .ok (.aload_n 0, 1) := by decide +kernel
theorem dd_Pa_readItem_37 : decode cc_Pa_readItem 37 = .ok (.dup, 1) := by decide +kernel
theorem dd_Pa_readItem_38 : decode cc_Pa_readItem 38 = .ok (.getfield 19, 3) := by decide +kernel
theorem dd_Pa_readItem_41 : decode cc_Pa_readItem 41 = .ok (.iconst 1, 1) := by decide +kernel
theorem dd_Pa_readItem_42 : decode cc_Pa_readItem 42 = .ok (.iadd, 1) := by decide +kernel
theorem dd_Pa_readItem_43 : decode cc_Pa_readItem 43 = .ok (.putfield 19, 3) := by decide +kernel
theorem dd_Pa_readItem_46 : decode cc_Pa_readItem 46 = .ok (.aload_n 0, 1) := by decide +kernel
theorem dd_Pa_readItem_47 : decode cc_Pa_readItem 47 = .ok (.invokevirtual 59, 3) := by decide +kernel
theorem dd_Pa_readItem_50 : decode cc_Pa_readItem 50 = .ok (.ireturn, 1) := by decide +kernel
theorem dd_Pa_readItem_51 : decode cc_Pa_readItem 51 = .ok (.aload_n 0, 1) := by decide +kernel
theorem dd_Pa_readItem_52 : decode cc_Pa_readItem 52 = .ok (.dup, 1) := by decide +kernel
theorem dd_Pa_readItem_53 : decode cc_Pa_readItem 53 = .ok (.getfield 19, 3) := by decide +kernel
theorem dd_Pa_readItem_56 : decode cc_Pa_readItem 56 = .ok (.iconst 1, 1) := by decide +kernel
theorem dd_Pa_readItem_57 : decode cc_Pa_readItem 57 = .ok (.iadd, 1) := by decide +kernel
theorem dd_Pa_readItem_58 : decode cc_Pa_readItem 58 = .ok (.putfield 19, 3) := by decide +kernel
theorem dd_Pa_readItem_61 : decode cc_Pa_readItem 61 = .ok (.aload_n 0, 1) := by decide +kernel
theorem dd_Pa_readItem_62 : decode cc_Pa_readItem 62 = .ok (.invokevirtual 62, 3) := by decide +kernel
theorem dd_Pa_readItem_65 : decode cc_Pa_readItem 65 = .ok (.ireturn, 1) := by decide +kernel
theorem dd_Pa_readItem_66 : decode cc_Pa_readItem 66 = .ok (.aload_n 0, 1) := by decide +kernel
theorem dd_Pa_readItem_67 : decode cc_Pa_readItem 67 = .ok (.invokevirtual 65, 3) := by decide +kernel
theorem dd_Pa_readItem_70 : decode cc_Pa_readItem 70 = .ok (.ireturn, 1) := by decide +kernel
theorem dd_Pa_build_0 : decode cc_Pa_build 0 = .ok (.aload_n 0, 1) := by decide +kernel
theorem dd_Pa_build_1 : decode cc_Pa_build 1 = .ok (.aload_n 1, 1) := by decide +kernel
theorem dd_Pa_build_2 : decode cc_Pa_build 2 = .ok (.putfield 9, 3) := by decide +kernel
theorem dd_Pa_build_5 : decode cc_Pa_build 5 = .ok (.aload_n 0, 1) := by decide +kernel
theorem dd_Pa_build_6 : decode cc_Pa_build 6 = .ok (.aload_n 2, 1) := by decide +kernel
theorem dd_Pa_build_7 : decode cc_Pa_build 7 = .ok (.putfield 15, 3) := by decide +kernel
theorem dd_Pa_build_10 : decode cc_Pa_build 10 = .ok (.aload_n 0, 1) := by decide +kernel
theorem dd_Pa_build_11 : decode cc_Pa_build 11 = .ok (.iconst 0, 1) := by decide +kernel
theorem dd_Pa_build_12 : decode cc_Pa_build 12 = .ok (.putfield 19, 3) := by decide +kernel
theorem dd_Pa_build_15 : decode cc_Pa_build 15 = .ok (.aload_n 0, 1) := by decide +kernel
theorem dd_Pa_build_16 : decode cc_Pa_build 16 = .ok (.invokevirtual 23, 3) := by decide +kernel
theorem dd_Pa_build_19 : decode cc_Pa_build 19 = .ok (.istore_n 3, 1) := by decide +kernel
theorem dd_Pa_build_20 : decode cc_Pa_build 20 = .ok (.iconst 0, 1) := by decide +kernel
theorem dd_Pa_build_21 : decode cc_Pa_build 21 = .ok (.istore 4, 2) := by decide +kernel
theorem dd_Pa_build_23 : decode cc_Pa_build 23 = .ok (.iload 4, 2) := by decide +kernel
theorem dd_Pa_build_25 : decode cc_Pa_build 25 = .ok (.sipush 1600, 3) := by decide +kernel
theorem dd_Pa_build_28 : decode cc_Pa_build 28 = .ok (.if_icmp .ge 32, 3) := by decide +kernel
theorem dd_Pa_build_31 : decode cc_Pa_build 31 = .ok (.aload_n 0, 1) := by decide +kernel
theorem dd_Pa_build_32 : decode cc_Pa_build 32 = .ok (.getfield 19, 3) := by decide +kernel
theorem dd_Pa_build_35 : decode cc_Pa_build 35 = .ok (.aload_n 0, 1) := by decide +kernel
theorem dd_Pa_build_36 : decode cc_Pa_build 36 = .ok (.getfield 9, 3) := by decide +kernel
theorem dd_Pa_build_39 : decode cc_Pa_build 39 = .ok (.getfield 27, 3) := by decide +kernel
theorem dd_Pa_build_42 : decode cc_Pa_build 42 = .ok (.if_icmp .ge 18, 3) := by decide +kernel
theorem dd_Pa_build_45 : decode cc_Pa_build 45 = .ok (.iload_n 3, 1) := by decide +kernel
theorem dd_Pa_build_46 : decode cc_Pa_build 46 = .ok (.ifCond .ne 14, 3) := by decide +kernel
theorem dd_Pa_build_49 : decode cc_Pa_build 49 = .ok (.aload_n 0, 1) := by decide +kernel
theorem dd_Pa_build_50 : decode cc_Pa_build 50 = .ok (.invokevirtual 32, 3) := by decide +kernel
theorem dd_Pa_build_53 : decode cc_Pa_build 53 = .ok (.istore_n 3, 1) := by decide +kernel
theorem dd_Pa_build_54 : decode cc_Pa_build 54 = .ok (.iinc 4 1, 3) := by decide +kernel
theorem dd_Pa_build_57 : decode cc_Pa_build 57 = .ok (.goto (-34), 3) := by decide +kernel
theorem dd_Pa_build_60 : decode cc_Pa_build 60 = .ok (.iload_n 3, 1) := by decide +kernel
theorem dd_Pa_build_61 : decode cc_Pa_build 61 = .ok (.ireturn, 1) := by decide +kernel
def pr_s0 (X : List Nat) : Int32 ⊕ (Nat × am_T) := pr_bd (pr_sgn X 110 0) fun k1 => pr_bd (pr_num X 17 k1) fun x => pr_bd (pr_sgn X 59 x.1) fun k3 => .inr (k3, (x.2, none, (fun _ => none), []))
def pr_st (X : List Nat) (a : am_T) (k : Nat) : Int32 ⊕ (Nat × am_T) := pr_bd (pr_num X (am_n a) k) fun x => if (am_st a).isSome = true then .inl (-6) else pr_bd (pr_wt X x.1) fun z => .inr (z.1, (am_n a, some (x.2, z.2), am_en a, am_ar a))
def pr_en (X : List Nat) (a : am_T) (k : Nat) : Int32 ⊕ (Nat × am_T) := pr_bd (pr_num X (am_n a) k) fun x => if (am_en a x.2).isSome = true then .inl (-6) else pr_bd (pr_wt X x.1) fun z => .inr (z.1, (am_n a, am_st a, va_up (am_en a) x.2 (some z.2), am_ar a))
def pr_k (f i o t : Nat) : Nat := f * 1024 + (8 * i + o) * 16 + t
def pr_ar (X : List Nat) (a : am_T) (k : Nat) : Int32 ⊕ (Nat × am_T) := pr_bd (pr_num X (am_n a) k) fun x1 => pr_bd (pr_sgn X 45 x1.1) fun k2 => pr_bd (pr_num X (am_n a) k2) fun x3 => pr_bd (pr_sgn X 58 x3.1) fun k4 => pr_bd (pr_lab X k4) fun x5 => pr_bd (pr_lab X x5.1) fun x6 => pr_bd (pr_wt X x6.1) fun x7 => if am_rm (pr_k x1.2 x5.2 x6.2 x3.2) (am_ar a) = true then .inr (x7.1, (am_n a, am_st a, am_en a, am_in (pr_k x1.2 x5.2 x6.2 x3.2) x7.2 (am_ar a))) else .inl (-2)
def pr_it (X : List Nat) (a : am_T) (k : Nat) : Int32 ⊕ (Nat × am_T) := if X[k]? = some 115 then pr_st X a (k + 1) else if X[k]? = some 102 then pr_en X a (k + 1) else pr_ar X a k
def pr_lp (X : List Nat) : Nat → Nat × am_T → Int32 ⊕ am_T
  | 0, x => .inr x.2
  | m + 1, x => if x.1 < X.length then pr_bd (pr_it X x.2 x.1) (pr_lp X m) else .inr x.2
def pr_all (X : List Nat) : Int32 ⊕ am_T := pr_bd (pr_s0 X) (pr_lp X 1600)
theorem pr_s0_r {X : List Nat} {k : Nat} {a : am_T} (h : pr_s0 X = .inr (k, a)) : k ≤ X.length ∧ am_n a ≤ 16 := by
  unfold pr_s0 at h
  rcases h1 : pr_sgn X 110 0 with e | k1
  · rw [pr_bdl h1] at h; cases h
  · rw [pr_bdr h1] at h
    rcases h2 : pr_num X 17 k1 with e | ⟨k2, v2⟩
    · rw [pr_bdl h2] at h; cases h
    · rw [pr_bdr h2] at h
      rcases h3 : pr_sgn X 59 k2 with e | k3
      · rw [pr_bdl (x := pr_sgn X 59 (k2, v2).1) h3] at h; cases h
      · rw [pr_bdr (x := pr_sgn X 59 (k2, v2).1) h3] at h
        cases h
        have := pr_num_r h2
        exact ⟨(pr_sgn_r h3).2, by show v2 ≤ 16; omega⟩
theorem pr_st_r {X : List Nat} {a b : am_T} {k k2 : Nat} (h : pr_st X a k = .inr (k2, b)) : k < k2 ∧ k2 ≤ X.length ∧ am_n b = am_n a := by
  unfold pr_st at h
  rcases h1 : pr_num X (am_n a) k with e | ⟨k1, v1⟩
  · rw [pr_bdl h1] at h; cases h
  · rw [pr_bdr h1] at h
    split at h
    · cases h
    · rcases h2 : pr_wt X k1 with e | ⟨k3, v3⟩
      · rw [pr_bdl (x := pr_wt X (k1, v1).1) h2] at h; cases h
      · rw [pr_bdr (x := pr_wt X (k1, v1).1) h2] at h
        cases h
        have a1 := pr_num_r h1
        have a2 := pr_wt_r h2
        exact ⟨by omega, a2.2.1, rfl⟩
theorem pr_en_r {X : List Nat} {a b : am_T} {k k2 : Nat} (h : pr_en X a k = .inr (k2, b)) : k < k2 ∧ k2 ≤ X.length ∧ am_n b = am_n a := by
  unfold pr_en at h
  rcases h1 : pr_num X (am_n a) k with e | ⟨k1, v1⟩
  · rw [pr_bdl h1] at h; cases h
  · rw [pr_bdr h1] at h
    split at h
    · cases h
    · rcases h2 : pr_wt X k1 with e | ⟨k3, v3⟩
      · rw [pr_bdl (x := pr_wt X (k1, v1).1) h2] at h; cases h
      · rw [pr_bdr (x := pr_wt X (k1, v1).1) h2] at h
        cases h
        have a1 := pr_num_r h1
        have a2 := pr_wt_r h2
        exact ⟨by omega, a2.2.1, rfl⟩
theorem pr_ar_r {X : List Nat} {a b : am_T} {k k2 : Nat} (h : pr_ar X a k = .inr (k2, b)) : k < k2 ∧ k2 ≤ X.length ∧ am_n b = am_n a := by
  unfold pr_ar at h
  rcases h1 : pr_num X (am_n a) k with e | ⟨k1, v1⟩
  · rw [pr_bdl h1] at h; cases h
  rw [pr_bdr h1] at h
  rcases h2 : pr_sgn X 45 k1 with e | q2
  · rw [pr_bdl (x := pr_sgn X 45 (k1, v1).1) h2] at h; cases h
  rw [pr_bdr (x := pr_sgn X 45 (k1, v1).1) h2] at h
  rcases h3 : pr_num X (am_n a) q2 with e | ⟨k3, v3⟩
  · rw [pr_bdl h3] at h; cases h
  rw [pr_bdr h3] at h
  rcases h4 : pr_sgn X 58 k3 with e | k4
  · rw [pr_bdl (x := pr_sgn X 58 (k3, v3).1) h4] at h; cases h
  rw [pr_bdr (x := pr_sgn X 58 (k3, v3).1) h4] at h
  rcases h5 : pr_lab X k4 with e | ⟨k5, v5⟩
  · rw [pr_bdl h5] at h; cases h
  rw [pr_bdr h5] at h
  rcases h6 : pr_lab X k5 with e | ⟨k6, v6⟩
  · rw [pr_bdl (x := pr_lab X (k5, v5).1) h6] at h; cases h
  rw [pr_bdr (x := pr_lab X (k5, v5).1) h6] at h
  rcases h7 : pr_wt X k6 with e | ⟨k7, v7⟩
  · rw [pr_bdl (x := pr_wt X (k6, v6).1) h7] at h; cases h
  rw [pr_bdr (x := pr_wt X (k6, v6).1) h7] at h
  split at h
  · cases h
    have a1 := pr_num_r h1
    have a2 := pr_sgn_r h2
    have a3 := pr_num_r h3
    have a4 := pr_sgn_r h4
    have a5 := pr_lab_r h5
    have a6 := pr_lab_r h6
    have a7 := pr_wt_r h7
    exact ⟨by omega, a7.2.1, rfl⟩
  · cases h
theorem pr_it_r {X : List Nat} {a b : am_T} {k k2 : Nat} (h : pr_it X a k = .inr (k2, b)) : k < k2 ∧ k2 ≤ X.length ∧ am_n b = am_n a := by
  unfold pr_it at h
  split at h
  · have := pr_st_r h
    exact ⟨by omega, this.2⟩
  · split at h
    · have := pr_en_r h
      exact ⟨by omega, this.2⟩
    · exact pr_ar_r h
def pa_i (v : Option Value) (ad : Nat → Nat) (i : Nat) (r : Nat → va_E) (M : gm_V) (R : Int32 ⊕ (Nat × am_T)) : Prop := match R with
  | .inl f => pa_f v ad i r f
  | .inr x => v = some (.int (nI 0)) ∧ (∃ y, r 42 = pa_c ad i (nI x.1) y) ∧ mb_iv M x.2
theorem pr_lim16 : ∀ v, v < 10000000000 → ((16 : Int64) < lN v ↔ 17 ≤ v) := fun v hv => by
  rw [show (16 : Int64) = lN 16 from rfl, pk_lLT (by decide) (by omega)]
  omega
set_option maxRecDepth 100000 in
set_option maxHeartbeats 4000000 in
theorem ct_Pa_readSize (l : Launch) (D : va_G) (dA : Nat → ClassId) (ad : Nat → Nat) (mm : Nat → gm_V) (r : Nat → va_E) {X : List Nat} (hX : te_at dA ad r X) {im : Nat} {y : Int64} (him : im < 5) (h42 : r 42 = pa_c ad im (nI 0) y) : gx_Ct l D dA yy_Pa_readSize cc_Pa_readSize 2 (some .int) 2 0 0 [.ref (ad 42)] (gx_w ad (gm_h dA ad mm r)) (fun v w => ∃ M r2, w = gx_w ad (gm_h dA ad (va_up mm im M) r2) ∧ (∀ j, j ≠ 42 → r2 j = r j) ∧ pa_i v ad im r2 M (pr_s0 X)) := by
  refine gx_of (by decide) (Nat.le_of_ble_eq_true rfl) (fun K C _ _ => ?_)
  have hl16 := hX.2.2.1
  have hX_0 := hX
  have h42_0 := h42
  refine gx_aload_n C 0 dd_Pa_readSize_0 (kk := ?_)
  refine gx_bipush (v := nI 110) C dd_Pa_readSize_1 (kk := ?_)
  refine gx_callV C (ct_Pa_readSign (gx_l K) D dA ad mm r hX_0 (im := im) (k := 0) (by omega) (c := 110) (y := y) (by decide) h42_0) me_Pa_readSign ml_Pa_35 mn_Pa_readSign _ (gx_w_at (by decide) (gm_r h42_0)) rfl dd_Pa_readSize_3 (kk := fun v w hq => ?_)
  obtain ⟨r1, rfl, ho1, hq⟩ := hq
  have hX_1 : te_at dA ad r1 X := te_at_r hX_0 ho1
  rcases hs1 : pr_sgn X 110 0 with f1 | k1
  · rw [hs1] at hq
    obtain ⟨rfl, hf1, x1, y1, hz1⟩ := hq
    refine gx_istore_n C _ dd_Pa_readSize_6 (kk := ?_)
    refine gx_iload_n C 0 dd_Pa_readSize_7 (kk := ?_)
    refine gx_if_eq C 15 dd_Pa_readSize_8 (fun h8 => absurd h8 hf1) (fun h8 => ?_)
    refine gx_iload_n C 0 dd_Pa_readSize_11 (kk := ?_)
    refine gx_goto C 22 dd_Pa_readSize_12 (kk := ?_)
    refine gx_istore_n C _ dd_Pa_readSize_22 (kk := ?_)
    refine gx_iload_n C 0 dd_Pa_readSize_23 (kk := ?_)
    refine gx_if_eq C 31 dd_Pa_readSize_24 (fun h24 => absurd h24 hf1) (fun h24 => ?_)
    refine gx_iload_n C 0 dd_Pa_readSize_27 (kk := ?_)
    refine gx_goto C 37 dd_Pa_readSize_28 (kk := ?_)
    refine gx_istore_n C _ dd_Pa_readSize_37 (kk := ?_)
    refine gx_iload_n C 0 dd_Pa_readSize_38 (kk := ?_)
    refine gx_if_ne C 54 dd_Pa_readSize_39 (fun h39 => ?_) (fun h39 => absurd h39 hf1)
    refine gx_iload_n C 0 dd_Pa_readSize_54 (kk := ?_)
    refine gx_iret C dd_Pa_readSize_55 ?_
    refine ⟨mm im, r1, by rw [gm_ue], fun j hj => (ho1 j hj), ?_⟩
    rw [pr_s0, pr_bdl hs1]
    exact ⟨rfl, hf1, _, _, hz1⟩
  · rw [hs1] at hq
    obtain ⟨rfl, h42_1⟩ := hq
    have hb1 := pr_sgn_r hs1
    refine gx_istore_n C _ dd_Pa_readSize_6 (kk := ?_)
    refine gx_iload_n C 0 dd_Pa_readSize_7 (kk := ?_)
    refine gx_if_eq C 15 dd_Pa_readSize_8 (fun h8 => ?_) (fun h8 => absurd rfl h8)
    refine gx_aload_n C 1 dd_Pa_readSize_15 (kk := ?_)
    refine gx_ldc2 C dd_Pa_readSize_16 kc_Pa_39 (kk := ?_)
    refine gx_callV C (ct_Pa_readNumber (gx_l K) D dA ad mm r1 hX_1 (im := im) (k := k1) (by omega) (lim := 17) (most := 16) pr_lim16 h42_1) me_Pa_readNumber ml_Pa_41 mn_Pa_readNumber _ (gx_w_at (by decide) (gm_r h42_1)) rfl dd_Pa_readSize_19 (kk := fun v w hq => ?_)
    obtain ⟨r2, rfl, ho2, hq⟩ := hq
    have hX_2 : te_at dA ad r2 X := te_at_r hX_1 ho2
    rcases hs2 : pr_num X 17 k1 with f2 | ⟨k2, v2⟩
    · rw [hs2] at hq
      obtain ⟨rfl, hf2, x2, y2, hz2⟩ := hq
      refine gx_istore_n C _ dd_Pa_readSize_22 (kk := ?_)
      refine gx_iload_n C 0 dd_Pa_readSize_23 (kk := ?_)
      refine gx_if_eq C 31 dd_Pa_readSize_24 (fun h24 => absurd h24 hf2) (fun h24 => ?_)
      refine gx_iload_n C 0 dd_Pa_readSize_27 (kk := ?_)
      refine gx_goto C 37 dd_Pa_readSize_28 (kk := ?_)
      refine gx_istore_n C _ dd_Pa_readSize_37 (kk := ?_)
      refine gx_iload_n C 0 dd_Pa_readSize_38 (kk := ?_)
      refine gx_if_ne C 54 dd_Pa_readSize_39 (fun h39 => ?_) (fun h39 => absurd h39 hf2)
      refine gx_iload_n C 0 dd_Pa_readSize_54 (kk := ?_)
      refine gx_iret C dd_Pa_readSize_55 ?_
      refine ⟨mm im, r2, by rw [gm_ue], fun j hj => ((ho2 j hj).trans (ho1 j hj)), ?_⟩
      rw [pr_s0, pr_bdr hs1, pr_bdl hs2]
      exact ⟨rfl, hf2, _, _, hz2⟩
    · rw [hs2] at hq
      obtain ⟨rfl, h42_2⟩ := hq
      have h42_2 : r2 42 = pa_c ad im (nI k2) (lN v2) := h42_2
      have hb2 := pr_num_r hs2
      refine gx_istore_n C _ dd_Pa_readSize_22 (kk := ?_)
      refine gx_iload_n C 0 dd_Pa_readSize_23 (kk := ?_)
      refine gx_if_eq C 31 dd_Pa_readSize_24 (fun h24 => ?_) (fun h24 => absurd rfl h24)
      refine gx_aload_n C 1 dd_Pa_readSize_31 (kk := ?_)
      refine gx_bipush (v := nI 59) C dd_Pa_readSize_32 (kk := ?_)
      refine gx_callV C (ct_Pa_readSign (gx_l K) D dA ad mm r2 hX_2 (im := im) (k := k2) (by omega) (c := 59) (y := lN v2) (by decide) h42_2) me_Pa_readSign ml_Pa_35 mn_Pa_readSign _ (gx_w_at (by decide) (gm_r h42_2)) rfl dd_Pa_readSize_34 (kk := fun v w hq => ?_)
      obtain ⟨r3, rfl, ho3, hq⟩ := hq
      have hX_3 : te_at dA ad r3 X := te_at_r hX_2 ho3
      rcases hs3 : pr_sgn X 59 k2 with f3 | k3
      · rw [hs3] at hq
        obtain ⟨rfl, hf3, x3, y3, hz3⟩ := hq
        refine gx_istore_n C _ dd_Pa_readSize_37 (kk := ?_)
        refine gx_iload_n C 0 dd_Pa_readSize_38 (kk := ?_)
        refine gx_if_ne C 54 dd_Pa_readSize_39 (fun h39 => ?_) (fun h39 => absurd h39 hf3)
        refine gx_iload_n C 0 dd_Pa_readSize_54 (kk := ?_)
        refine gx_iret C dd_Pa_readSize_55 ?_
        refine ⟨mm im, r3, by rw [gm_ue], fun j hj => ((ho3 j hj).trans ((ho2 j hj).trans (ho1 j hj))), ?_⟩
        rw [pr_s0, pr_bdr hs1, pr_bdr hs2, pr_bdl hs3]
        exact ⟨rfl, hf3, _, _, hz3⟩
      · rw [hs3] at hq
        obtain ⟨rfl, h42_3⟩ := hq
        have hb3 := pr_sgn_r hs3
        refine gx_istore_n C _ dd_Pa_readSize_37 (kk := ?_)
        refine gx_iload_n C 0 dd_Pa_readSize_38 (kk := ?_)
        refine gx_if_ne C 54 dd_Pa_readSize_39 (fun h39 => absurd rfl h39) (fun h39 => ?_)
        refine gx_aload_n C 1 dd_Pa_readSize_42 (kk := ?_)
        refine gx_get C fd_Pa_15 (gm_r h42_3) dd_Pa_readSize_43 (kk := ?_)
        refine gx_aload_n C 1 dd_Pa_readSize_46 (kk := ?_)
        refine gx_get C fd_Pa_45 (gm_r h42_3) dd_Pa_readSize_47 (kk := ?_)
        refine gx_l2i C dd_Pa_readSize_50 (w := nI v2) (hv := lN_i _) (kk := ?_)
        refine gx_callV C (ct_Ma_clear (gx_l K) D dA ad mm r3 (i := im) him v2) me_Ma_clear ml_Pa_49 mn_Ma_clear _ (gx_w_at (by omega) (gm_at (j := 0) him (by decide))) rfl dd_Pa_readSize_51 (kk := fun v w hq => ?_)
        obtain ⟨rfl, M0, rfl, hM0⟩ := hq
        refine gx_iload_n C 0 dd_Pa_readSize_54 (kk := ?_)
        refine gx_iret C dd_Pa_readSize_55 ?_
        refine ⟨M0, r3, rfl, fun j hj => ((ho3 j hj).trans ((ho2 j hj).trans (ho1 j hj))), ?_⟩
        rw [pr_s0, pr_bdr hs1, pr_bdr hs2, pr_bdr hs3]
        exact ⟨rfl, ⟨_, h42_3⟩, hM0, am_b_0 _ (by omega), List.Pairwise.nil⟩
set_option maxRecDepth 100000 in
set_option maxHeartbeats 4000000 in
theorem ct_Pa_readStart (l : Launch) (D : va_G) (dA : Nat → ClassId) (ad : Nat → Nat) (mm : Nat → gm_V) (r : Nat → va_E) {X : List Nat} (hX : te_at dA ad r X) {im : Nat} {k : Nat} (hk : k ≤ X.length) {a : am_T} {y : Int64} (him : im < 5) (hI : mb_iv (mm im) a) (h42 : r 42 = pa_c ad im (nI k) y) : gx_Ct l D dA yy_Pa_readStart cc_Pa_readStart 3 (some .int) 3 0 0 [.ref (ad 42)] (gx_w ad (gm_h dA ad mm r)) (fun v w => ∃ M r2, w = gx_w ad (gm_h dA ad (va_up mm im M) r2) ∧ (∀ j, j ≠ 42 → r2 j = r j) ∧ pa_i v ad im r2 M (pr_st X a k)) := by
  refine gx_of (by decide) (Nat.le_of_ble_eq_true rfl) (fun K C _ _ => ?_)
  have hl16 := hX.2.2.1
  have hX_0 := hX
  have h42_0 := h42
  have hn16 := hI.2.1.1
  refine gx_aload_n C 0 dd_Pa_readStart_0 (kk := ?_)
  refine gx_callV C (ct_Pa_readState (gx_l K) D dA ad mm r hX_0 (im := im) (k := k) (by omega) (a := a) him hI.1 hn16 h42_0) me_Pa_readState ml_Pa_68 mn_Pa_readState _ (gx_w_at (by decide) (gm_r h42_0)) rfl dd_Pa_readStart_1 (kk := fun v w hq => ?_)
  obtain ⟨r1, rfl, ho1, hq⟩ := hq
  have hX_1 : te_at dA ad r1 X := te_at_r hX_0 ho1
  rcases hs1 : pr_num X (am_n a) k with f1 | ⟨k1, v1⟩
  · rw [hs1] at hq
    obtain ⟨rfl, hf1, x1, y1, hz1⟩ := hq
    refine gx_istore_n C _ dd_Pa_readStart_4 (kk := ?_)
    refine gx_aload_n C 1 dd_Pa_readStart_5 (kk := ?_)
    refine gx_get C fd_Pa_45 (gm_r hz1) dd_Pa_readStart_6 (kk := ?_)
    refine gx_l2i C dd_Pa_readStart_9 (kk := ?_)
    refine gx_istore_n C _ dd_Pa_readStart_10 (kk := ?_)
    refine gx_iload_n C 1 dd_Pa_readStart_11 (kk := ?_)
    refine gx_if_ne C 29 dd_Pa_readStart_12 (fun h12 => ?_) (fun h12 => absurd h12 hf1)
    refine gx_iload_n C 1 dd_Pa_readStart_29 (kk := ?_)
    refine gx_if_eq C 37 dd_Pa_readStart_30 (fun h30 => absurd h30 hf1) (fun h30 => ?_)
    refine gx_iload_n C 1 dd_Pa_readStart_33 (kk := ?_)
    refine gx_goto C 41 dd_Pa_readStart_34 (kk := ?_)
    refine gx_istore_n C _ dd_Pa_readStart_41 (kk := ?_)
    refine gx_iload_n C 0 dd_Pa_readStart_42 (kk := ?_)
    refine gx_if_ne C 58 dd_Pa_readStart_43 (fun h43 => ?_) (fun h43 => absurd h43 hf1)
    refine gx_iload_n C 0 dd_Pa_readStart_58 (kk := ?_)
    refine gx_iret C dd_Pa_readStart_59 ?_
    refine ⟨mm im, r1, by rw [gm_ue], ho1, ?_⟩
    rw [pr_st, pr_bdl hs1]
    exact ⟨rfl, hf1, _, _, hz1⟩
  · rw [hs1] at hq
    obtain ⟨rfl, h42_1⟩ := hq
    have h42_1 : r1 42 = pa_c ad im (nI k1) (lN v1) := h42_1
    have hb1 := pr_num_r hs1
    refine gx_istore_n C _ dd_Pa_readStart_4 (kk := ?_)
    refine gx_aload_n C 1 dd_Pa_readStart_5 (kk := ?_)
    refine gx_get C fd_Pa_45 (gm_r h42_1) dd_Pa_readStart_6 (kk := ?_)
    refine gx_l2i C dd_Pa_readStart_9 (w := nI v1) (hv := lN_i _) (kk := ?_)
    refine gx_istore_n C _ dd_Pa_readStart_10 (kk := ?_)
    refine gx_iload_n C 1 dd_Pa_readStart_11 (kk := ?_)
    refine gx_if_ne C 29 dd_Pa_readStart_12 (fun h12 => absurd rfl h12) (fun h12 => ?_)
    rcases hO : am_st a with _ | s0
    · have hsq := hI.1.2.1
      rw [hO] at hsq
      refine gx_aload_n C 2 dd_Pa_readStart_15 (kk := ?_)
      refine gx_get C fd_Pa_15 (gm_r h42_1) dd_Pa_readStart_16 (kk := ?_)
      refine gm_get C fd_Pa_71 him dd_Pa_readStart_19 (kk := ?_)
      refine gx_topi _ hsq.1 ?_
      refine gx_iconst (v := -1) C dd_Pa_readStart_22 (kk := ?_)
      refine gx_icmp_eq C 29 dd_Pa_readStart_23 (fun h23 => ?_) (fun h23 => absurd rfl h23)
      refine gx_iload_n C 1 dd_Pa_readStart_29 (kk := ?_)
      refine gx_if_eq C 37 dd_Pa_readStart_30 (fun h30 => ?_) (fun h30 => absurd rfl h30)
      refine gx_aload_n C 2 dd_Pa_readStart_37 (kk := ?_)
      refine gx_callV C (ct_Pa_readWeight (gx_l K) D dA ad mm r1 hX_1 (im := im) (k := k1) (by omega) h42_1) me_Pa_readWeight ml_Pa_74 mn_Pa_readWeight _ (gx_w_at (by decide) (gm_r h42_1)) rfl dd_Pa_readStart_38 (kk := fun v w hq => ?_)
      obtain ⟨r2, rfl, ho2, hq⟩ := hq
      have hX_2 : te_at dA ad r2 X := te_at_r hX_1 ho2
      rcases hs2 : pr_wt X k1 with f2 | ⟨k2, v2⟩
      · rw [hs2] at hq
        obtain ⟨rfl, hf2, x2, y2, hz2⟩ := hq
        refine gx_istore_n C _ dd_Pa_readStart_41 (kk := ?_)
        refine gx_iload_n C 0 dd_Pa_readStart_42 (kk := ?_)
        refine gx_if_ne C 58 dd_Pa_readStart_43 (fun h43 => ?_) (fun h43 => absurd h43 hf2)
        refine gx_iload_n C 0 dd_Pa_readStart_58 (kk := ?_)
        refine gx_iret C dd_Pa_readStart_59 ?_
        refine ⟨mm im, r2, by rw [gm_ue], fun j hj => ((ho2 j hj).trans (ho1 j hj)), ?_⟩
        rw [pr_st, pr_bdr hs1, if_neg (by rw [hO]; decide), pr_bdl hs2]
        exact ⟨rfl, hf2, _, _, hz2⟩
      · rw [hs2] at hq
        obtain ⟨rfl, h42_2⟩ := hq
        have h42_2 : r2 42 = pa_c ad im (nI k2) (lN v2) := h42_2
        have hb2 := pr_wt_r hs2
        refine gx_istore_n C _ dd_Pa_readStart_41 (kk := ?_)
        refine gx_iload_n C 0 dd_Pa_readStart_42 (kk := ?_)
        refine gx_if_ne C 58 dd_Pa_readStart_43 (fun h43 => absurd rfl h43) (fun h43 => ?_)
        refine gx_aload_n C 2 dd_Pa_readStart_46 (kk := ?_)
        refine gx_get C fd_Pa_15 (gm_r h42_2) dd_Pa_readStart_47 (kk := ?_)
        refine gx_iload_n C 1 dd_Pa_readStart_50 (kk := ?_)
        refine gx_aload_n C 2 dd_Pa_readStart_51 (kk := ?_)
        refine gx_get C fd_Pa_45 (gm_r h42_2) dd_Pa_readStart_52 (kk := ?_)
        refine gx_callV C (ct_Ma_setStart (gx_l K) D dA ad mm r2 (i := im) him (nI v1) (lN v2)) me_Ma_setStart ml_Pa_77 mn_Ma_setStart _ (gx_w_at (by omega) (gm_at (j := 0) him (by decide))) rfl dd_Pa_readStart_55 (kk := fun v w hq => ?_)
        obtain ⟨rfl, rfl⟩ := hq
        refine gx_iload_n C 0 dd_Pa_readStart_58 (kk := ?_)
        refine gx_iret C dd_Pa_readStart_59 ?_
        refine ⟨_, r2, rfl, fun j hj => ((ho2 j hj).trans (ho1 j hj)), ?_⟩
        rw [pr_st, pr_bdr hs1, if_neg (by rw [hO]; decide), pr_bdr hs2]
        refine ⟨rfl, ⟨_, h42_2⟩, ⟨hI.1.1, ⟨rfl, rfl⟩, hI.1.2.2⟩, ⟨hI.2.1.1, hI.2.1.2.1, hI.2.1.2.2.1, hI.2.1.2.2.2.1, fun x hx => ?_⟩, hI.2.2⟩
        cases hx
        exact ⟨by show v1 < 16; omega, by show v2 < _; omega⟩
    · have hsq := hI.1.2.1
      rw [hO] at hsq
      have hs0 := hI.2.1.2.2.2.2 s0 hO
      refine gx_aload_n C 2 dd_Pa_readStart_15 (kk := ?_)
      refine gx_get C fd_Pa_15 (gm_r h42_1) dd_Pa_readStart_16 (kk := ?_)
      refine gm_get C fd_Pa_71 him dd_Pa_readStart_19 (kk := ?_)
      refine gx_topi _ hsq.1 ?_
      refine gx_iconst (v := -1) C dd_Pa_readStart_22 (kk := ?_)
      refine gx_icmp_eq C 29 dd_Pa_readStart_23 (fun h23 => absurd h23 (nI_m1 (by omega))) (fun h23 => ?_)
      refine gx_bipush (v := -6) C dd_Pa_readStart_26 (kk := ?_)
      refine gx_istore_n C _ dd_Pa_readStart_28 (kk := ?_)
      refine gx_iload_n C 0 dd_Pa_readStart_29 (kk := ?_)
      refine gx_if_eq C 37 dd_Pa_readStart_30 (fun h30 => absurd h30 (by decide)) (fun h30 => ?_)
      refine gx_iload_n C 0 dd_Pa_readStart_33 (kk := ?_)
      refine gx_goto C 41 dd_Pa_readStart_34 (kk := ?_)
      refine gx_istore_n C _ dd_Pa_readStart_41 (kk := ?_)
      refine gx_iload_n C 0 dd_Pa_readStart_42 (kk := ?_)
      refine gx_if_ne C 58 dd_Pa_readStart_43 (fun h43 => ?_) (fun h43 => absurd h43 (by decide))
      refine gx_iload_n C 0 dd_Pa_readStart_58 (kk := ?_)
      refine gx_iret C dd_Pa_readStart_59 ?_
      refine ⟨mm im, r1, by rw [gm_ue], ho1, ?_⟩
      rw [pr_st, pr_bdr hs1, if_pos (by rw [hO]; rfl)]
      exact ⟨rfl, by decide, _, _, h42_1⟩
set_option maxRecDepth 100000 in
set_option maxHeartbeats 4000000 in
theorem ct_Pa_readEnd (l : Launch) (D : va_G) (dA : Nat → ClassId) (ad : Nat → Nat) (mm : Nat → gm_V) (r : Nat → va_E) {X : List Nat} (hX : te_at dA ad r X) {im : Nat} {k : Nat} (hk : k ≤ X.length) {a : am_T} {y : Int64} (him : im < 5) (hI : mb_iv (mm im) a) (h42 : r 42 = pa_c ad im (nI k) y) : gx_Ct l D dA yy_Pa_readEnd cc_Pa_readEnd 3 (some .int) 3 0 0 [.ref (ad 42)] (gx_w ad (gm_h dA ad mm r)) (fun v w => ∃ M r2, w = gx_w ad (gm_h dA ad (va_up mm im M) r2) ∧ (∀ j, j ≠ 42 → r2 j = r j) ∧ pa_i v ad im r2 M (pr_en X a k)) := by
  refine gx_of (by decide) (Nat.le_of_ble_eq_true rfl) (fun K C _ _ => ?_)
  have hl16 := hX.2.2.1
  have hX_0 := hX
  have h42_0 := h42
  have hn16 := hI.2.1.1
  refine gx_aload_n C 0 dd_Pa_readEnd_0 (kk := ?_)
  refine gx_callV C (ct_Pa_readState (gx_l K) D dA ad mm r hX_0 (im := im) (k := k) (by omega) (a := a) him hI.1 hn16 h42_0) me_Pa_readState ml_Pa_68 mn_Pa_readState _ (gx_w_at (by decide) (gm_r h42_0)) rfl dd_Pa_readEnd_1 (kk := fun v w hq => ?_)
  obtain ⟨r1, rfl, ho1, hq⟩ := hq
  have hX_1 : te_at dA ad r1 X := te_at_r hX_0 ho1
  rcases hs1 : pr_num X (am_n a) k with f1 | ⟨k1, v1⟩
  · rw [hs1] at hq
    obtain ⟨rfl, hf1, x1, y1, hz1⟩ := hq
    refine gx_istore_n C _ dd_Pa_readEnd_4 (kk := ?_)
    refine gx_aload_n C 1 dd_Pa_readEnd_5 (kk := ?_)
    refine gx_get C fd_Pa_45 (gm_r hz1) dd_Pa_readEnd_6 (kk := ?_)
    refine gx_l2i C dd_Pa_readEnd_9 (kk := ?_)
    refine gx_istore_n C _ dd_Pa_readEnd_10 (kk := ?_)
    refine gx_iload_n C 1 dd_Pa_readEnd_11 (kk := ?_)
    refine gx_if_ne C 34 dd_Pa_readEnd_12 (fun h12 => ?_) (fun h12 => absurd h12 hf1)
    refine gx_iload_n C 1 dd_Pa_readEnd_34 (kk := ?_)
    refine gx_if_eq C 42 dd_Pa_readEnd_35 (fun h35 => absurd h35 hf1) (fun h35 => ?_)
    refine gx_iload_n C 1 dd_Pa_readEnd_38 (kk := ?_)
    refine gx_goto C 46 dd_Pa_readEnd_39 (kk := ?_)
    refine gx_istore_n C _ dd_Pa_readEnd_46 (kk := ?_)
    refine gx_iload_n C 0 dd_Pa_readEnd_47 (kk := ?_)
    refine gx_if_ne C 64 dd_Pa_readEnd_48 (fun h48 => ?_) (fun h48 => absurd h48 hf1)
    refine gx_iload_n C 0 dd_Pa_readEnd_64 (kk := ?_)
    refine gx_iret C dd_Pa_readEnd_65 ?_
    refine ⟨mm im, r1, by rw [gm_ue], ho1, ?_⟩
    rw [pr_en, pr_bdl hs1]
    exact ⟨rfl, hf1, _, _, hz1⟩
  · rw [hs1] at hq
    obtain ⟨rfl, h42_1⟩ := hq
    have h42_1 : r1 42 = pa_c ad im (nI k1) (lN v1) := h42_1
    have hb1 := pr_num_r hs1
    refine gx_istore_n C _ dd_Pa_readEnd_4 (kk := ?_)
    refine gx_aload_n C 1 dd_Pa_readEnd_5 (kk := ?_)
    refine gx_get C fd_Pa_45 (gm_r h42_1) dd_Pa_readEnd_6 (kk := ?_)
    refine gx_l2i C dd_Pa_readEnd_9 (w := nI v1) (hv := lN_i _) (kk := ?_)
    refine gx_istore_n C _ dd_Pa_readEnd_10 (kk := ?_)
    refine gx_iload_n C 1 dd_Pa_readEnd_11 (kk := ?_)
    refine gx_if_ne C 34 dd_Pa_readEnd_12 (fun h12 => absurd rfl h12) (fun h12 => ?_)
    rcases hO : am_en a v1 with _ | e0
    · refine gx_aload_n C 2 dd_Pa_readEnd_15 (kk := ?_)
      refine gx_get C fd_Pa_15 (gm_r h42_1) dd_Pa_readEnd_16 (kk := ?_)
      refine gm_get C fd_Pa_81 him dd_Pa_readEnd_19 (kk := ?_)
      refine gx_iload_n C 0 dd_Pa_readEnd_22 (kk := ?_)
      refine gm_ln_e C him dd_Pa_readEnd_23 (by omega) (kk := ?_)
      refine gx_topl _ (hI.1.2.2.1 v1 (by omega)) ?_
      refine gx_ldc2 C dd_Pa_readEnd_24 kc_Pa_85 (kk := ?_)
      refine gx_lcmp C dd_Pa_readEnd_27 (kk := ?_)
      refine gx_if_eq C 34 dd_Pa_readEnd_28 (fun h28 => ?_) (fun h28 => absurd (by rw [lc_eq, hO]; rfl) h28)
      refine gx_iload_n C 1 dd_Pa_readEnd_34 (kk := ?_)
      refine gx_if_eq C 42 dd_Pa_readEnd_35 (fun h35 => ?_) (fun h35 => absurd rfl h35)
      refine gx_aload_n C 2 dd_Pa_readEnd_42 (kk := ?_)
      refine gx_callV C (ct_Pa_readWeight (gx_l K) D dA ad mm r1 hX_1 (im := im) (k := k1) (by omega) h42_1) me_Pa_readWeight ml_Pa_74 mn_Pa_readWeight _ (gx_w_at (by decide) (gm_r h42_1)) rfl dd_Pa_readEnd_43 (kk := fun v w hq => ?_)
      obtain ⟨r2, rfl, ho2, hq⟩ := hq
      have hX_2 : te_at dA ad r2 X := te_at_r hX_1 ho2
      rcases hs2 : pr_wt X k1 with f2 | ⟨k2, v2⟩
      · rw [hs2] at hq
        obtain ⟨rfl, hf2, x2, y2, hz2⟩ := hq
        refine gx_istore_n C _ dd_Pa_readEnd_46 (kk := ?_)
        refine gx_iload_n C 0 dd_Pa_readEnd_47 (kk := ?_)
        refine gx_if_ne C 64 dd_Pa_readEnd_48 (fun h48 => ?_) (fun h48 => absurd h48 hf2)
        refine gx_iload_n C 0 dd_Pa_readEnd_64 (kk := ?_)
        refine gx_iret C dd_Pa_readEnd_65 ?_
        refine ⟨mm im, r2, by rw [gm_ue], fun j hj => ((ho2 j hj).trans (ho1 j hj)), ?_⟩
        rw [pr_en, pr_bdr hs1, if_neg (by rw [hO]; decide), pr_bdl hs2]
        exact ⟨rfl, hf2, _, _, hz2⟩
      · rw [hs2] at hq
        obtain ⟨rfl, h42_2⟩ := hq
        have h42_2 : r2 42 = pa_c ad im (nI k2) (lN v2) := h42_2
        have hb2 := pr_wt_r hs2
        refine gx_istore_n C _ dd_Pa_readEnd_46 (kk := ?_)
        refine gx_iload_n C 0 dd_Pa_readEnd_47 (kk := ?_)
        refine gx_if_ne C 64 dd_Pa_readEnd_48 (fun h48 => absurd rfl h48) (fun h48 => ?_)
        refine gx_aload_n C 2 dd_Pa_readEnd_51 (kk := ?_)
        refine gx_get C fd_Pa_15 (gm_r h42_2) dd_Pa_readEnd_52 (kk := ?_)
        refine gm_get C fd_Pa_81 him dd_Pa_readEnd_55 (kk := ?_)
        refine gx_iload_n C 1 dd_Pa_readEnd_58 (kk := ?_)
        refine gx_aload_n C 2 dd_Pa_readEnd_59 (kk := ?_)
        refine gx_get C fd_Pa_45 (gm_r h42_2) dd_Pa_readEnd_60 (kk := ?_)
        refine gm_sn_eV C him dd_Pa_readEnd_63 (by omega) (kk := fun m3 hm3 hn3 hu3 => ?_)
        refine gx_iload_n C 0 dd_Pa_readEnd_64 (kk := ?_)
        refine gx_iret C dd_Pa_readEnd_65 ?_
        refine ⟨m3 im, r2, by rw [← hu3], fun j hj => ((ho2 j hj).trans (ho1 j hj)), ?_⟩
        rw [pr_en, pr_bdr hs1, if_neg (by rw [hO]; decide), pr_bdr hs2]
        rw [hm3]
        exact ⟨rfl, ⟨_, h42_2⟩, mb_end (n := am_n a) (st := am_st a) (en := am_en a) (ar := am_ar a) (o := some v2) hI rfl (fun e he => by cases he; omega)⟩
    · have he0 := hI.2.1.2.2.2.1 _ _ hO
      refine gx_aload_n C 2 dd_Pa_readEnd_15 (kk := ?_)
      refine gx_get C fd_Pa_15 (gm_r h42_1) dd_Pa_readEnd_16 (kk := ?_)
      refine gm_get C fd_Pa_81 him dd_Pa_readEnd_19 (kk := ?_)
      refine gx_iload_n C 0 dd_Pa_readEnd_22 (kk := ?_)
      refine gm_ln_e C him dd_Pa_readEnd_23 (by omega) (kk := ?_)
      refine gx_topl _ (hI.1.2.2.1 v1 (by omega)) ?_
      refine gx_ldc2 C dd_Pa_readEnd_24 kc_Pa_85 (kk := ?_)
      refine gx_lcmp C dd_Pa_readEnd_27 (kk := ?_)
      refine gx_if_eq C 34 dd_Pa_readEnd_28 (fun h28 => absurd (by rw [lc_eq, hO] at h28; exact h28) (lN_m1 (w := e0) (by omega))) (fun h28 => ?_)
      refine gx_bipush (v := -6) C dd_Pa_readEnd_31 (kk := ?_)
      refine gx_istore_n C _ dd_Pa_readEnd_33 (kk := ?_)
      refine gx_iload_n C 0 dd_Pa_readEnd_34 (kk := ?_)
      refine gx_if_eq C 42 dd_Pa_readEnd_35 (fun h35 => absurd h35 (by decide)) (fun h35 => ?_)
      refine gx_iload_n C 0 dd_Pa_readEnd_38 (kk := ?_)
      refine gx_goto C 46 dd_Pa_readEnd_39 (kk := ?_)
      refine gx_istore_n C _ dd_Pa_readEnd_46 (kk := ?_)
      refine gx_iload_n C 0 dd_Pa_readEnd_47 (kk := ?_)
      refine gx_if_ne C 64 dd_Pa_readEnd_48 (fun h48 => ?_) (fun h48 => absurd h48 (by decide))
      refine gx_iload_n C 0 dd_Pa_readEnd_64 (kk := ?_)
      refine gx_iret C dd_Pa_readEnd_65 ?_
      refine ⟨mm im, r1, by rw [gm_ue], ho1, ?_⟩
      rw [pr_en, pr_bdr hs1, if_pos (by rw [hO]; rfl)]
      exact ⟨rfl, by decide, _, _, h42_1⟩
set_option maxRecDepth 100000 in
set_option maxHeartbeats 4000000 in
theorem ct_Pa_readArc (l : Launch) (D : va_G) (dA : Nat → ClassId) (ad : Nat → Nat) (mm : Nat → gm_V) (r : Nat → va_E) {X : List Nat} (hX : te_at dA ad r X) {im : Nat} {k : Nat} (hk : k ≤ X.length) {a : am_T} {y : Int64} (him : im < 5) (hI : mb_iv (mm im) a) (h42 : r 42 = pa_c ad im (nI k) y) : gx_Ct l D dA yy_Pa_readArc cc_Pa_readArc 6 (some .int) 3 0 0 [.ref (ad 42)] (gx_w ad (gm_h dA ad mm r)) (fun v w => ∃ M r2, w = gx_w ad (gm_h dA ad (va_up mm im M) r2) ∧ (∀ j, j ≠ 42 → r2 j = r j) ∧ pa_i v ad im r2 M (pr_ar X a k)) := by
  refine gx_of (by decide) (Nat.le_of_ble_eq_true rfl) (fun K C _ _ => ?_)
  have hl16 := hX.2.2.1
  have hX_0 := hX
  have h42_0 := h42
  have hn16 := hI.2.1.1
  refine gx_aload_n C 0 dd_Pa_readArc_0 (kk := ?_)
  refine gx_callV C (ct_Pa_readState (gx_l K) D dA ad mm r hX_0 (im := im) (k := k) (by omega) (a := a) him hI.1 hn16 h42_0) me_Pa_readState ml_Pa_68 mn_Pa_readState _ (gx_w_at (by decide) (gm_r h42_0)) rfl dd_Pa_readArc_1 (kk := fun v w hq => ?_)
  obtain ⟨r1, rfl, ho1, hq⟩ := hq
  have hX_1 : te_at dA ad r1 X := te_at_r hX_0 ho1
  rcases hs1 : pr_num X (am_n a) k with f1 | ⟨k1, v1⟩
  · rw [hs1] at hq
    obtain ⟨rfl, hf1, x1, y1, hz1⟩ := hq
    refine gx_istore_n C _ dd_Pa_readArc_4 (kk := ?_)
    refine gx_aload_n C 1 dd_Pa_readArc_5 (kk := ?_)
    refine gx_get C fd_Pa_45 (gm_r hz1) dd_Pa_readArc_6 (kk := ?_)
    refine gx_l2i C dd_Pa_readArc_9 (kk := ?_)
    refine gx_istore_n C _ dd_Pa_readArc_10 (kk := ?_)
    refine gx_iload_n C 1 dd_Pa_readArc_11 (kk := ?_)
    refine gx_if_eq C 19 dd_Pa_readArc_12 (fun h12 => absurd h12 hf1) (fun h12 => ?_)
    refine gx_iload_n C 1 dd_Pa_readArc_15 (kk := ?_)
    refine gx_goto C 25 dd_Pa_readArc_16 (kk := ?_)
    refine gx_istore_n C _ dd_Pa_readArc_25 (kk := ?_)
    refine gx_iload_n C 0 dd_Pa_readArc_26 (kk := ?_)
    refine gx_if_eq C 34 dd_Pa_readArc_27 (fun h27 => absurd h27 hf1) (fun h27 => ?_)
    refine gx_iload_n C 0 dd_Pa_readArc_30 (kk := ?_)
    refine gx_goto C 38 dd_Pa_readArc_31 (kk := ?_)
    refine gx_istore_n C _ dd_Pa_readArc_38 (kk := ?_)
    refine gx_aload_n C 2 dd_Pa_readArc_39 (kk := ?_)
    refine gx_get C fd_Pa_45 (gm_r hz1) dd_Pa_readArc_40 (kk := ?_)
    refine gx_l2i C dd_Pa_readArc_43 (kk := ?_)
    refine gx_istore_n C _ dd_Pa_readArc_44 (kk := ?_)
    refine gx_iload_n C 1 dd_Pa_readArc_45 (kk := ?_)
    refine gx_if_eq C 53 dd_Pa_readArc_46 (fun h46 => absurd h46 hf1) (fun h46 => ?_)
    refine gx_iload_n C 1 dd_Pa_readArc_49 (kk := ?_)
    refine gx_goto C 59 dd_Pa_readArc_50 (kk := ?_)
    refine gx_istore_n C _ dd_Pa_readArc_59 (kk := ?_)
    refine gx_iload_n C 0 dd_Pa_readArc_60 (kk := ?_)
    refine gx_if_eq C 68 dd_Pa_readArc_61 (fun h61 => absurd h61 hf1) (fun h61 => ?_)
    refine gx_iload_n C 0 dd_Pa_readArc_64 (kk := ?_)
    refine gx_goto C 72 dd_Pa_readArc_65 (kk := ?_)
    refine gx_istore_n C _ dd_Pa_readArc_72 (kk := ?_)
    refine gx_aload_n C 3 dd_Pa_readArc_73 (kk := ?_)
    refine gx_get C fd_Pa_45 (gm_r hz1) dd_Pa_readArc_74 (kk := ?_)
    refine gx_l2i C dd_Pa_readArc_77 (kk := ?_)
    refine gx_istore C _ dd_Pa_readArc_78 (kk := ?_)
    refine gx_iload_n C 1 dd_Pa_readArc_80 (kk := ?_)
    refine gx_if_eq C 88 dd_Pa_readArc_81 (fun h81 => absurd h81 hf1) (fun h81 => ?_)
    refine gx_iload_n C 1 dd_Pa_readArc_84 (kk := ?_)
    refine gx_goto C 92 dd_Pa_readArc_85 (kk := ?_)
    refine gx_istore_n C _ dd_Pa_readArc_92 (kk := ?_)
    refine gx_aload_n C 4 dd_Pa_readArc_93 (kk := ?_)
    refine gx_get C fd_Pa_45 (gm_r hz1) dd_Pa_readArc_94 (kk := ?_)
    refine gx_l2i C dd_Pa_readArc_97 (kk := ?_)
    refine gx_istore C _ dd_Pa_readArc_98 (kk := ?_)
    refine gx_iload_n C 1 dd_Pa_readArc_100 (kk := ?_)
    refine gx_if_eq C 108 dd_Pa_readArc_101 (fun h101 => absurd h101 hf1) (fun h101 => ?_)
    refine gx_iload_n C 1 dd_Pa_readArc_104 (kk := ?_)
    refine gx_goto C 112 dd_Pa_readArc_105 (kk := ?_)
    refine gx_istore_n C _ dd_Pa_readArc_112 (kk := ?_)
    refine gx_iload_n C 0 dd_Pa_readArc_113 (kk := ?_)
    refine gx_if_ne C 146 dd_Pa_readArc_114 (fun h114 => ?_) (fun h114 => absurd h114 hf1)
    refine gx_iload_n C 0 dd_Pa_readArc_146 (kk := ?_)
    refine gx_iret C dd_Pa_readArc_147 ?_
    refine ⟨mm im, r1, by rw [gm_ue], fun j hj => (ho1 j hj), ?_⟩
    rw [pr_ar, pr_bdl hs1]
    exact ⟨rfl, hf1, _, _, hz1⟩
  · rw [hs1] at hq
    obtain ⟨rfl, h42_1⟩ := hq
    have h42_1 : r1 42 = pa_c ad im (nI k1) (lN v1) := h42_1
    have hb1 := pr_num_r hs1
    refine gx_istore_n C _ dd_Pa_readArc_4 (kk := ?_)
    refine gx_aload_n C 1 dd_Pa_readArc_5 (kk := ?_)
    refine gx_get C fd_Pa_45 (gm_r h42_1) dd_Pa_readArc_6 (kk := ?_)
    refine gx_l2i C dd_Pa_readArc_9 (w := nI v1) (hv := lN_i _) (kk := ?_)
    refine gx_istore_n C _ dd_Pa_readArc_10 (kk := ?_)
    refine gx_iload_n C 1 dd_Pa_readArc_11 (kk := ?_)
    refine gx_if_eq C 19 dd_Pa_readArc_12 (fun h12 => ?_) (fun h12 => absurd rfl h12)
    refine gx_aload_n C 2 dd_Pa_readArc_19 (kk := ?_)
    refine gx_bipush (v := nI 45) C dd_Pa_readArc_20 (kk := ?_)
    refine gx_callV C (ct_Pa_readSign (gx_l K) D dA ad mm r1 hX_1 (im := im) (k := k1) (by omega) (c := 45) (y := lN v1) (by decide) h42_1) me_Pa_readSign ml_Pa_35 mn_Pa_readSign _ (gx_w_at (by decide) (gm_r h42_1)) rfl dd_Pa_readArc_22 (kk := fun v w hq => ?_)
    obtain ⟨r2, rfl, ho2, hq⟩ := hq
    have hX_2 : te_at dA ad r2 X := te_at_r hX_1 ho2
    rcases hs2 : pr_sgn X 45 k1 with f2 | k2
    · rw [hs2] at hq
      obtain ⟨rfl, hf2, x2, y2, hz2⟩ := hq
      refine gx_istore_n C _ dd_Pa_readArc_25 (kk := ?_)
      refine gx_iload_n C 0 dd_Pa_readArc_26 (kk := ?_)
      refine gx_if_eq C 34 dd_Pa_readArc_27 (fun h27 => absurd h27 hf2) (fun h27 => ?_)
      refine gx_iload_n C 0 dd_Pa_readArc_30 (kk := ?_)
      refine gx_goto C 38 dd_Pa_readArc_31 (kk := ?_)
      refine gx_istore_n C _ dd_Pa_readArc_38 (kk := ?_)
      refine gx_aload_n C 2 dd_Pa_readArc_39 (kk := ?_)
      refine gx_get C fd_Pa_45 (gm_r hz2) dd_Pa_readArc_40 (kk := ?_)
      refine gx_l2i C dd_Pa_readArc_43 (kk := ?_)
      refine gx_istore_n C _ dd_Pa_readArc_44 (kk := ?_)
      refine gx_iload_n C 1 dd_Pa_readArc_45 (kk := ?_)
      refine gx_if_eq C 53 dd_Pa_readArc_46 (fun h46 => absurd h46 hf2) (fun h46 => ?_)
      refine gx_iload_n C 1 dd_Pa_readArc_49 (kk := ?_)
      refine gx_goto C 59 dd_Pa_readArc_50 (kk := ?_)
      refine gx_istore_n C _ dd_Pa_readArc_59 (kk := ?_)
      refine gx_iload_n C 0 dd_Pa_readArc_60 (kk := ?_)
      refine gx_if_eq C 68 dd_Pa_readArc_61 (fun h61 => absurd h61 hf2) (fun h61 => ?_)
      refine gx_iload_n C 0 dd_Pa_readArc_64 (kk := ?_)
      refine gx_goto C 72 dd_Pa_readArc_65 (kk := ?_)
      refine gx_istore_n C _ dd_Pa_readArc_72 (kk := ?_)
      refine gx_aload_n C 3 dd_Pa_readArc_73 (kk := ?_)
      refine gx_get C fd_Pa_45 (gm_r hz2) dd_Pa_readArc_74 (kk := ?_)
      refine gx_l2i C dd_Pa_readArc_77 (kk := ?_)
      refine gx_istore C _ dd_Pa_readArc_78 (kk := ?_)
      refine gx_iload_n C 1 dd_Pa_readArc_80 (kk := ?_)
      refine gx_if_eq C 88 dd_Pa_readArc_81 (fun h81 => absurd h81 hf2) (fun h81 => ?_)
      refine gx_iload_n C 1 dd_Pa_readArc_84 (kk := ?_)
      refine gx_goto C 92 dd_Pa_readArc_85 (kk := ?_)
      refine gx_istore_n C _ dd_Pa_readArc_92 (kk := ?_)
      refine gx_aload_n C 4 dd_Pa_readArc_93 (kk := ?_)
      refine gx_get C fd_Pa_45 (gm_r hz2) dd_Pa_readArc_94 (kk := ?_)
      refine gx_l2i C dd_Pa_readArc_97 (kk := ?_)
      refine gx_istore C _ dd_Pa_readArc_98 (kk := ?_)
      refine gx_iload_n C 1 dd_Pa_readArc_100 (kk := ?_)
      refine gx_if_eq C 108 dd_Pa_readArc_101 (fun h101 => absurd h101 hf2) (fun h101 => ?_)
      refine gx_iload_n C 1 dd_Pa_readArc_104 (kk := ?_)
      refine gx_goto C 112 dd_Pa_readArc_105 (kk := ?_)
      refine gx_istore_n C _ dd_Pa_readArc_112 (kk := ?_)
      refine gx_iload_n C 0 dd_Pa_readArc_113 (kk := ?_)
      refine gx_if_ne C 146 dd_Pa_readArc_114 (fun h114 => ?_) (fun h114 => absurd h114 hf2)
      refine gx_iload_n C 0 dd_Pa_readArc_146 (kk := ?_)
      refine gx_iret C dd_Pa_readArc_147 ?_
      refine ⟨mm im, r2, by rw [gm_ue], fun j hj => ((ho2 j hj).trans (ho1 j hj)), ?_⟩
      rw [pr_ar, pr_bdr hs1, pr_bdl hs2]
      exact ⟨rfl, hf2, _, _, hz2⟩
    · rw [hs2] at hq
      obtain ⟨rfl, h42_2⟩ := hq
      have hb2 := pr_sgn_r hs2
      refine gx_istore_n C _ dd_Pa_readArc_25 (kk := ?_)
      refine gx_iload_n C 0 dd_Pa_readArc_26 (kk := ?_)
      refine gx_if_eq C 34 dd_Pa_readArc_27 (fun h27 => ?_) (fun h27 => absurd rfl h27)
      refine gx_aload_n C 2 dd_Pa_readArc_34 (kk := ?_)
      refine gx_callV C (ct_Pa_readState (gx_l K) D dA ad mm r2 hX_2 (im := im) (k := k2) (by omega) (a := a) him hI.1 hn16 h42_2) me_Pa_readState ml_Pa_68 mn_Pa_readState _ (gx_w_at (by decide) (gm_r h42_2)) rfl dd_Pa_readArc_35 (kk := fun v w hq => ?_)
      obtain ⟨r3, rfl, ho3, hq⟩ := hq
      have hX_3 : te_at dA ad r3 X := te_at_r hX_2 ho3
      rcases hs3 : pr_num X (am_n a) k2 with f3 | ⟨k3, v3⟩
      · rw [hs3] at hq
        obtain ⟨rfl, hf3, x3, y3, hz3⟩ := hq
        refine gx_istore_n C _ dd_Pa_readArc_38 (kk := ?_)
        refine gx_aload_n C 2 dd_Pa_readArc_39 (kk := ?_)
        refine gx_get C fd_Pa_45 (gm_r hz3) dd_Pa_readArc_40 (kk := ?_)
        refine gx_l2i C dd_Pa_readArc_43 (kk := ?_)
        refine gx_istore_n C _ dd_Pa_readArc_44 (kk := ?_)
        refine gx_iload_n C 1 dd_Pa_readArc_45 (kk := ?_)
        refine gx_if_eq C 53 dd_Pa_readArc_46 (fun h46 => absurd h46 hf3) (fun h46 => ?_)
        refine gx_iload_n C 1 dd_Pa_readArc_49 (kk := ?_)
        refine gx_goto C 59 dd_Pa_readArc_50 (kk := ?_)
        refine gx_istore_n C _ dd_Pa_readArc_59 (kk := ?_)
        refine gx_iload_n C 0 dd_Pa_readArc_60 (kk := ?_)
        refine gx_if_eq C 68 dd_Pa_readArc_61 (fun h61 => absurd h61 hf3) (fun h61 => ?_)
        refine gx_iload_n C 0 dd_Pa_readArc_64 (kk := ?_)
        refine gx_goto C 72 dd_Pa_readArc_65 (kk := ?_)
        refine gx_istore_n C _ dd_Pa_readArc_72 (kk := ?_)
        refine gx_aload_n C 3 dd_Pa_readArc_73 (kk := ?_)
        refine gx_get C fd_Pa_45 (gm_r hz3) dd_Pa_readArc_74 (kk := ?_)
        refine gx_l2i C dd_Pa_readArc_77 (kk := ?_)
        refine gx_istore C _ dd_Pa_readArc_78 (kk := ?_)
        refine gx_iload_n C 1 dd_Pa_readArc_80 (kk := ?_)
        refine gx_if_eq C 88 dd_Pa_readArc_81 (fun h81 => absurd h81 hf3) (fun h81 => ?_)
        refine gx_iload_n C 1 dd_Pa_readArc_84 (kk := ?_)
        refine gx_goto C 92 dd_Pa_readArc_85 (kk := ?_)
        refine gx_istore_n C _ dd_Pa_readArc_92 (kk := ?_)
        refine gx_aload_n C 4 dd_Pa_readArc_93 (kk := ?_)
        refine gx_get C fd_Pa_45 (gm_r hz3) dd_Pa_readArc_94 (kk := ?_)
        refine gx_l2i C dd_Pa_readArc_97 (kk := ?_)
        refine gx_istore C _ dd_Pa_readArc_98 (kk := ?_)
        refine gx_iload_n C 1 dd_Pa_readArc_100 (kk := ?_)
        refine gx_if_eq C 108 dd_Pa_readArc_101 (fun h101 => absurd h101 hf3) (fun h101 => ?_)
        refine gx_iload_n C 1 dd_Pa_readArc_104 (kk := ?_)
        refine gx_goto C 112 dd_Pa_readArc_105 (kk := ?_)
        refine gx_istore_n C _ dd_Pa_readArc_112 (kk := ?_)
        refine gx_iload_n C 0 dd_Pa_readArc_113 (kk := ?_)
        refine gx_if_ne C 146 dd_Pa_readArc_114 (fun h114 => ?_) (fun h114 => absurd h114 hf3)
        refine gx_iload_n C 0 dd_Pa_readArc_146 (kk := ?_)
        refine gx_iret C dd_Pa_readArc_147 ?_
        refine ⟨mm im, r3, by rw [gm_ue], fun j hj => ((ho3 j hj).trans ((ho2 j hj).trans (ho1 j hj))), ?_⟩
        rw [pr_ar, pr_bdr hs1, pr_bdr hs2, pr_bdl hs3]
        exact ⟨rfl, hf3, _, _, hz3⟩
      · rw [hs3] at hq
        obtain ⟨rfl, h42_3⟩ := hq
        have h42_3 : r3 42 = pa_c ad im (nI k3) (lN v3) := h42_3
        have hb3 := pr_num_r hs3
        refine gx_istore_n C _ dd_Pa_readArc_38 (kk := ?_)
        refine gx_aload_n C 2 dd_Pa_readArc_39 (kk := ?_)
        refine gx_get C fd_Pa_45 (gm_r h42_3) dd_Pa_readArc_40 (kk := ?_)
        refine gx_l2i C dd_Pa_readArc_43 (w := nI v3) (hv := lN_i _) (kk := ?_)
        refine gx_istore_n C _ dd_Pa_readArc_44 (kk := ?_)
        refine gx_iload_n C 1 dd_Pa_readArc_45 (kk := ?_)
        refine gx_if_eq C 53 dd_Pa_readArc_46 (fun h46 => ?_) (fun h46 => absurd rfl h46)
        refine gx_aload_n C 3 dd_Pa_readArc_53 (kk := ?_)
        refine gx_bipush (v := nI 58) C dd_Pa_readArc_54 (kk := ?_)
        refine gx_callV C (ct_Pa_readSign (gx_l K) D dA ad mm r3 hX_3 (im := im) (k := k3) (by omega) (c := 58) (y := lN v3) (by decide) h42_3) me_Pa_readSign ml_Pa_35 mn_Pa_readSign _ (gx_w_at (by decide) (gm_r h42_3)) rfl dd_Pa_readArc_56 (kk := fun v w hq => ?_)
        obtain ⟨r4, rfl, ho4, hq⟩ := hq
        have hX_4 : te_at dA ad r4 X := te_at_r hX_3 ho4
        rcases hs4 : pr_sgn X 58 k3 with f4 | k4
        · rw [hs4] at hq
          obtain ⟨rfl, hf4, x4, y4, hz4⟩ := hq
          refine gx_istore_n C _ dd_Pa_readArc_59 (kk := ?_)
          refine gx_iload_n C 0 dd_Pa_readArc_60 (kk := ?_)
          refine gx_if_eq C 68 dd_Pa_readArc_61 (fun h61 => absurd h61 hf4) (fun h61 => ?_)
          refine gx_iload_n C 0 dd_Pa_readArc_64 (kk := ?_)
          refine gx_goto C 72 dd_Pa_readArc_65 (kk := ?_)
          refine gx_istore_n C _ dd_Pa_readArc_72 (kk := ?_)
          refine gx_aload_n C 3 dd_Pa_readArc_73 (kk := ?_)
          refine gx_get C fd_Pa_45 (gm_r hz4) dd_Pa_readArc_74 (kk := ?_)
          refine gx_l2i C dd_Pa_readArc_77 (kk := ?_)
          refine gx_istore C _ dd_Pa_readArc_78 (kk := ?_)
          refine gx_iload_n C 1 dd_Pa_readArc_80 (kk := ?_)
          refine gx_if_eq C 88 dd_Pa_readArc_81 (fun h81 => absurd h81 hf4) (fun h81 => ?_)
          refine gx_iload_n C 1 dd_Pa_readArc_84 (kk := ?_)
          refine gx_goto C 92 dd_Pa_readArc_85 (kk := ?_)
          refine gx_istore_n C _ dd_Pa_readArc_92 (kk := ?_)
          refine gx_aload_n C 4 dd_Pa_readArc_93 (kk := ?_)
          refine gx_get C fd_Pa_45 (gm_r hz4) dd_Pa_readArc_94 (kk := ?_)
          refine gx_l2i C dd_Pa_readArc_97 (kk := ?_)
          refine gx_istore C _ dd_Pa_readArc_98 (kk := ?_)
          refine gx_iload_n C 1 dd_Pa_readArc_100 (kk := ?_)
          refine gx_if_eq C 108 dd_Pa_readArc_101 (fun h101 => absurd h101 hf4) (fun h101 => ?_)
          refine gx_iload_n C 1 dd_Pa_readArc_104 (kk := ?_)
          refine gx_goto C 112 dd_Pa_readArc_105 (kk := ?_)
          refine gx_istore_n C _ dd_Pa_readArc_112 (kk := ?_)
          refine gx_iload_n C 0 dd_Pa_readArc_113 (kk := ?_)
          refine gx_if_ne C 146 dd_Pa_readArc_114 (fun h114 => ?_) (fun h114 => absurd h114 hf4)
          refine gx_iload_n C 0 dd_Pa_readArc_146 (kk := ?_)
          refine gx_iret C dd_Pa_readArc_147 ?_
          refine ⟨mm im, r4, by rw [gm_ue], fun j hj => ((ho4 j hj).trans ((ho3 j hj).trans ((ho2 j hj).trans (ho1 j hj)))), ?_⟩
          rw [pr_ar, pr_bdr hs1, pr_bdr hs2, pr_bdr hs3, pr_bdl hs4]
          exact ⟨rfl, hf4, _, _, hz4⟩
        · rw [hs4] at hq
          obtain ⟨rfl, h42_4⟩ := hq
          have hb4 := pr_sgn_r hs4
          refine gx_istore_n C _ dd_Pa_readArc_59 (kk := ?_)
          refine gx_iload_n C 0 dd_Pa_readArc_60 (kk := ?_)
          refine gx_if_eq C 68 dd_Pa_readArc_61 (fun h61 => ?_) (fun h61 => absurd rfl h61)
          refine gx_aload_n C 3 dd_Pa_readArc_68 (kk := ?_)
          refine gx_callV C (ct_Pa_readLabel (gx_l K) D dA ad mm r4 hX_4 (im := im) (k := k4) (by omega) h42_4) me_Pa_readLabel ml_Pa_87 mn_Pa_readLabel _ (gx_w_at (by decide) (gm_r h42_4)) rfl dd_Pa_readArc_69 (kk := fun v w hq => ?_)
          obtain ⟨r5, rfl, ho5, hq⟩ := hq
          have hX_5 : te_at dA ad r5 X := te_at_r hX_4 ho5
          rcases hs5 : pr_lab X k4 with f5 | ⟨k5, v5⟩
          · rw [hs5] at hq
            obtain ⟨rfl, hf5, x5, y5, hz5⟩ := hq
            refine gx_istore_n C _ dd_Pa_readArc_72 (kk := ?_)
            refine gx_aload_n C 3 dd_Pa_readArc_73 (kk := ?_)
            refine gx_get C fd_Pa_45 (gm_r hz5) dd_Pa_readArc_74 (kk := ?_)
            refine gx_l2i C dd_Pa_readArc_77 (kk := ?_)
            refine gx_istore C _ dd_Pa_readArc_78 (kk := ?_)
            refine gx_iload_n C 1 dd_Pa_readArc_80 (kk := ?_)
            refine gx_if_eq C 88 dd_Pa_readArc_81 (fun h81 => absurd h81 hf5) (fun h81 => ?_)
            refine gx_iload_n C 1 dd_Pa_readArc_84 (kk := ?_)
            refine gx_goto C 92 dd_Pa_readArc_85 (kk := ?_)
            refine gx_istore_n C _ dd_Pa_readArc_92 (kk := ?_)
            refine gx_aload_n C 4 dd_Pa_readArc_93 (kk := ?_)
            refine gx_get C fd_Pa_45 (gm_r hz5) dd_Pa_readArc_94 (kk := ?_)
            refine gx_l2i C dd_Pa_readArc_97 (kk := ?_)
            refine gx_istore C _ dd_Pa_readArc_98 (kk := ?_)
            refine gx_iload_n C 1 dd_Pa_readArc_100 (kk := ?_)
            refine gx_if_eq C 108 dd_Pa_readArc_101 (fun h101 => absurd h101 hf5) (fun h101 => ?_)
            refine gx_iload_n C 1 dd_Pa_readArc_104 (kk := ?_)
            refine gx_goto C 112 dd_Pa_readArc_105 (kk := ?_)
            refine gx_istore_n C _ dd_Pa_readArc_112 (kk := ?_)
            refine gx_iload_n C 0 dd_Pa_readArc_113 (kk := ?_)
            refine gx_if_ne C 146 dd_Pa_readArc_114 (fun h114 => ?_) (fun h114 => absurd h114 hf5)
            refine gx_iload_n C 0 dd_Pa_readArc_146 (kk := ?_)
            refine gx_iret C dd_Pa_readArc_147 ?_
            refine ⟨mm im, r5, by rw [gm_ue], fun j hj => ((ho5 j hj).trans ((ho4 j hj).trans ((ho3 j hj).trans ((ho2 j hj).trans (ho1 j hj))))), ?_⟩
            rw [pr_ar, pr_bdr hs1, pr_bdr hs2, pr_bdr hs3, pr_bdr hs4, pr_bdl hs5]
            exact ⟨rfl, hf5, _, _, hz5⟩
          · rw [hs5] at hq
            obtain ⟨rfl, h42_5⟩ := hq
            have h42_5 : r5 42 = pa_c ad im (nI k5) (lN v5) := h42_5
            have hb5 := pr_lab_r hs5
            refine gx_istore_n C _ dd_Pa_readArc_72 (kk := ?_)
            refine gx_aload_n C 3 dd_Pa_readArc_73 (kk := ?_)
            refine gx_get C fd_Pa_45 (gm_r h42_5) dd_Pa_readArc_74 (kk := ?_)
            refine gx_l2i C dd_Pa_readArc_77 (w := nI v5) (hv := lN_i _) (kk := ?_)
            refine gx_istore C _ dd_Pa_readArc_78 (kk := ?_)
            refine gx_iload_n C 1 dd_Pa_readArc_80 (kk := ?_)
            refine gx_if_eq C 88 dd_Pa_readArc_81 (fun h81 => ?_) (fun h81 => absurd rfl h81)
            refine gx_aload_n C 4 dd_Pa_readArc_88 (kk := ?_)
            refine gx_callV C (ct_Pa_readLabel (gx_l K) D dA ad mm r5 hX_5 (im := im) (k := k5) (by omega) h42_5) me_Pa_readLabel ml_Pa_87 mn_Pa_readLabel _ (gx_w_at (by decide) (gm_r h42_5)) rfl dd_Pa_readArc_89 (kk := fun v w hq => ?_)
            obtain ⟨r6, rfl, ho6, hq⟩ := hq
            have hX_6 : te_at dA ad r6 X := te_at_r hX_5 ho6
            rcases hs6 : pr_lab X k5 with f6 | ⟨k6, v6⟩
            · rw [hs6] at hq
              obtain ⟨rfl, hf6, x6, y6, hz6⟩ := hq
              refine gx_istore_n C _ dd_Pa_readArc_92 (kk := ?_)
              refine gx_aload_n C 4 dd_Pa_readArc_93 (kk := ?_)
              refine gx_get C fd_Pa_45 (gm_r hz6) dd_Pa_readArc_94 (kk := ?_)
              refine gx_l2i C dd_Pa_readArc_97 (kk := ?_)
              refine gx_istore C _ dd_Pa_readArc_98 (kk := ?_)
              refine gx_iload_n C 1 dd_Pa_readArc_100 (kk := ?_)
              refine gx_if_eq C 108 dd_Pa_readArc_101 (fun h101 => absurd h101 hf6) (fun h101 => ?_)
              refine gx_iload_n C 1 dd_Pa_readArc_104 (kk := ?_)
              refine gx_goto C 112 dd_Pa_readArc_105 (kk := ?_)
              refine gx_istore_n C _ dd_Pa_readArc_112 (kk := ?_)
              refine gx_iload_n C 0 dd_Pa_readArc_113 (kk := ?_)
              refine gx_if_ne C 146 dd_Pa_readArc_114 (fun h114 => ?_) (fun h114 => absurd h114 hf6)
              refine gx_iload_n C 0 dd_Pa_readArc_146 (kk := ?_)
              refine gx_iret C dd_Pa_readArc_147 ?_
              refine ⟨mm im, r6, by rw [gm_ue], fun j hj => ((ho6 j hj).trans ((ho5 j hj).trans ((ho4 j hj).trans ((ho3 j hj).trans ((ho2 j hj).trans (ho1 j hj)))))), ?_⟩
              rw [pr_ar, pr_bdr hs1, pr_bdr hs2, pr_bdr hs3, pr_bdr hs4, pr_bdr hs5, pr_bdl hs6]
              exact ⟨rfl, hf6, _, _, hz6⟩
            · rw [hs6] at hq
              obtain ⟨rfl, h42_6⟩ := hq
              have h42_6 : r6 42 = pa_c ad im (nI k6) (lN v6) := h42_6
              have hb6 := pr_lab_r hs6
              refine gx_istore_n C _ dd_Pa_readArc_92 (kk := ?_)
              refine gx_aload_n C 4 dd_Pa_readArc_93 (kk := ?_)
              refine gx_get C fd_Pa_45 (gm_r h42_6) dd_Pa_readArc_94 (kk := ?_)
              refine gx_l2i C dd_Pa_readArc_97 (w := nI v6) (hv := lN_i _) (kk := ?_)
              refine gx_istore C _ dd_Pa_readArc_98 (kk := ?_)
              refine gx_iload_n C 1 dd_Pa_readArc_100 (kk := ?_)
              refine gx_if_eq C 108 dd_Pa_readArc_101 (fun h101 => ?_) (fun h101 => absurd rfl h101)
              refine gx_aload_n C 5 dd_Pa_readArc_108 (kk := ?_)
              refine gx_callV C (ct_Pa_readWeight (gx_l K) D dA ad mm r6 hX_6 (im := im) (k := k6) (by omega) h42_6) me_Pa_readWeight ml_Pa_74 mn_Pa_readWeight _ (gx_w_at (by decide) (gm_r h42_6)) rfl dd_Pa_readArc_109 (kk := fun v w hq => ?_)
              obtain ⟨r7, rfl, ho7, hq⟩ := hq
              have hX_7 : te_at dA ad r7 X := te_at_r hX_6 ho7
              rcases hs7 : pr_wt X k6 with f7 | ⟨k7, v7⟩
              · rw [hs7] at hq
                obtain ⟨rfl, hf7, x7, y7, hz7⟩ := hq
                refine gx_istore_n C _ dd_Pa_readArc_112 (kk := ?_)
                refine gx_iload_n C 0 dd_Pa_readArc_113 (kk := ?_)
                refine gx_if_ne C 146 dd_Pa_readArc_114 (fun h114 => ?_) (fun h114 => absurd h114 hf7)
                refine gx_iload_n C 0 dd_Pa_readArc_146 (kk := ?_)
                refine gx_iret C dd_Pa_readArc_147 ?_
                refine ⟨mm im, r7, by rw [gm_ue], fun j hj => ((ho7 j hj).trans ((ho6 j hj).trans ((ho5 j hj).trans ((ho4 j hj).trans ((ho3 j hj).trans ((ho2 j hj).trans (ho1 j hj))))))), ?_⟩
                rw [pr_ar, pr_bdr hs1, pr_bdr hs2, pr_bdr hs3, pr_bdr hs4, pr_bdr hs5, pr_bdr hs6, pr_bdl hs7]
                exact ⟨rfl, hf7, _, _, hz7⟩
              · rw [hs7] at hq
                obtain ⟨rfl, h42_7⟩ := hq
                have h42_7 : r7 42 = pa_c ad im (nI k7) (lN v7) := h42_7
                have hb7 := pr_wt_r hs7
                refine gx_istore_n C _ dd_Pa_readArc_112 (kk := ?_)
                refine gx_iload_n C 0 dd_Pa_readArc_113 (kk := ?_)
                refine gx_if_ne C 146 dd_Pa_readArc_114 (fun h114 => absurd rfl h114) (fun h114 => ?_)
                refine gx_aload_n C 5 dd_Pa_readArc_117 (kk := ?_)
                refine gx_get C fd_Pa_15 (gm_r h42_7) dd_Pa_readArc_118 (kk := ?_)
                refine gx_iload_n C 4 dd_Pa_readArc_121 (kk := ?_)
                refine gx_iload C 2 dd_Pa_readArc_122 (kk := ?_)
                refine gx_iload C 1 dd_Pa_readArc_124 (kk := ?_)
                refine gx_callS C (ct_WM_labelPair (gx_l K) D dA _ v5 v6) me_WM_labelPair ml_Pa_90 ms_WM_labelPair dd_Pa_readArc_126 (kk := fun v w hq => ?_)
                obtain ⟨rfl, rfl⟩ := hq
                refine gx_iload_n C 3 dd_Pa_readArc_129 (kk := ?_)
                refine gx_callS C (ct_WM_keyOf (gx_l K) D dA _ v1 (8 * v5 + v6) v3 (by omega) (by omega) (by omega)) me_WM_keyOf ml_Pa_94 ms_WM_keyOf dd_Pa_readArc_130 (kk := fun v w hq => ?_)
                obtain ⟨rfl, rfl⟩ := hq
                have hkey : pr_k v1 v5 v6 v3 < 16384 := by unfold pr_k; omega
                refine gx_aload_n C 5 dd_Pa_readArc_133 (kk := ?_)
                refine gx_get C fd_Pa_45 (gm_r h42_7) dd_Pa_readArc_134 (kk := ?_)
                refine gx_callV C (ct_Ma_bring (gx_l K) D dA ad mm r7 (i := im) (a := a) (key := pr_k v1 v5 v6 v3) (x0 := v7) (B := 35184372088832) him hI.1 hI.2.1 hI.2.2 (by decide) hkey (by omega)) me_Ma_bring ml_Pa_98 mn_Ma_bring _ (gx_w_at (by omega) (gm_at (j := 0) him (by decide))) rfl dd_Pa_readArc_137 (kk := fun v w hq => ?_)
                rcases hq with ⟨hr, rfl, M2, rfl, hM2⟩ | ⟨hr, rfl, rfl⟩
                · refine gx_if_ne C 146 dd_Pa_readArc_140 (fun h140 => ?_) (fun h140 => absurd h140 (by decide))
                  refine gx_iload_n C 0 dd_Pa_readArc_146 (kk := ?_)
                  refine gx_iret C dd_Pa_readArc_147 ?_
                  refine ⟨M2, r7, rfl, fun j hj => ((ho7 j hj).trans ((ho6 j hj).trans ((ho5 j hj).trans ((ho4 j hj).trans ((ho3 j hj).trans ((ho2 j hj).trans (ho1 j hj))))))), ?_⟩
                  rw [pr_ar, pr_bdr hs1, pr_bdr hs2, pr_bdr hs3, pr_bdr hs4, pr_bdr hs5, pr_bdr hs6, pr_bdr hs7, if_pos hr]
                  exact ⟨rfl, ⟨_, h42_7⟩, mb_in hI hM2 hr hkey (by omega)⟩
                · refine gx_if_ne C 146 dd_Pa_readArc_140 (fun h140 => absurd rfl h140) (fun h140 => ?_)
                  refine gx_bipush (v := -2) C dd_Pa_readArc_143 (kk := ?_)
                  refine gx_istore_n C _ dd_Pa_readArc_145 (kk := ?_)
                  refine gx_iload_n C 0 dd_Pa_readArc_146 (kk := ?_)
                  refine gx_iret C dd_Pa_readArc_147 ?_
                  refine ⟨mm im, r7, by rw [gm_ue], fun j hj => ((ho7 j hj).trans ((ho6 j hj).trans ((ho5 j hj).trans ((ho4 j hj).trans ((ho3 j hj).trans ((ho2 j hj).trans (ho1 j hj))))))), ?_⟩
                  rw [pr_ar, pr_bdr hs1, pr_bdr hs2, pr_bdr hs3, pr_bdr hs4, pr_bdr hs5, pr_bdr hs6, pr_bdr hs7, if_neg (by rw [hr]; decide)]
                  exact ⟨rfl, by decide, _, _, h42_7⟩
theorem pr_onr {X : List Nat} {k n : Nat} (hn : n < 65536) (hX : ∀ c ∈ X, c < 65536) (h : (on_r X[k]?).toInt = (n : Int)) : X[k]? = some n := by
  cases hx : X[k]? with
  | none =>
    rw [hx] at h
    have h : (-1 : Int32).toInt = (n : Int) := h
    rw [show (-1 : Int32).toInt = -1 by decide] at h
    omega
  | some c =>
    have hc := hX c (List.mem_of_getElem? hx)
    rw [hx] at h
    have h : (nI c).toInt = (n : Int) := h
    rw [nI_toInt (by omega)] at h
    rw [show c = n by omega]
theorem pr_off {x : Int} (h1 : ¬ x = ((102 : Nat) : Int)) (h2 : ¬ x = ((115 : Nat) : Int)) : Op.lookupswitch.offset (#[((102 : Int), (40 : Int)), (115, 25)] : Array (Int × Int)).toList 55 x = 55 := by
  show (if (102 : Int) = x then (40 : Int) else if (115 : Int) = x then 25 else 55) = 55
  rw [if_neg (fun e => h1 e.symm), if_neg (fun e => h2 e.symm)]
set_option maxRecDepth 100000 in
set_option maxHeartbeats 4000000 in
theorem ct_Pa_readItem (l : Launch) (D : va_G) (dA : Nat → ClassId) (ad : Nat → Nat) (mm : Nat → gm_V) (r : Nat → va_E) {X : List Nat} (hX : te_at dA ad r X) {im : Nat} {k : Nat} (hk : k ≤ X.length) {a : am_T} {y : Int64} (him : im < 5) (hI : mb_iv (mm im) a) (h42 : r 42 = pa_c ad im (nI k) y) : gx_Ct l D dA yy_Pa_readItem cc_Pa_readItem 1 (some .int) 4 0 0 [.ref (ad 42)] (gx_w ad (gm_h dA ad mm r)) (fun v w => ∃ M r2, w = gx_w ad (gm_h dA ad (va_up mm im M) r2) ∧ (∀ j, j ≠ 42 → r2 j = r j) ∧ pa_i v ad im r2 M (pr_it X a k)) := by
  refine gx_of (by decide) (Nat.le_of_ble_eq_true rfl) (fun K C _ _ => ?_)
  have hl16 := hX.2.2.1
  have hX_0 := hX
  have h42_0 := h42
  have hn16 := hI.2.1.1
  refine gx_aload_n C 0 dd_Pa_readItem_0 (kk := ?_)
  refine gx_get C fd_Pa_9 (gm_r h42) dd_Pa_readItem_1 (kk := ?_)
  refine gx_aload_n C 0 dd_Pa_readItem_4 (kk := ?_)
  refine gx_get C fd_Pa_19 (gm_r h42) dd_Pa_readItem_5 (kk := ?_)
  refine gx_callV C (ct_Te_codeAt (gx_l K) D dA ad mm r hX (k := k) (by omega)) me_Te_codeAt ml_Pa_55 mn_Te_codeAt _ (gx_w_at (by decide) (gm_r hX.1)) rfl dd_Pa_readItem_8 (kk := fun v w hq => ?_)
  obtain ⟨rfl, rfl⟩ := hq
  by_cases h115 : X[k]? = some 115
  · have hkx := h115
    refine gx_topi (nI 115) (by rw [h115]; rfl) ?_
    refine gx_lookup C 36 dd_Pa_readItem_11 (off := 25) (by decide) (by decide) (by decide) ?_
    refine gx_aload_n C 0 dd_Pa_readItem_36 (kk := ?_)
    refine gx_dup C dd_Pa_readItem_37 (kk := ?_)
    refine gx_get C fd_Pa_19 (gm_r h42) dd_Pa_readItem_38 (kk := ?_)
    refine gx_iconst (v := nI 1) C dd_Pa_readItem_41 (kk := ?_)
    refine gx_iadd C dd_Pa_readItem_42 (kk := ?_)
    refine gx_topi _ (nI_add _ _) ?_
    refine gz_put C fw_Pa_19 h42 dd_Pa_readItem_43 (kk := fun r1 hr1 => ?_)
    have h42b : r1 42 = pa_c ad im (nI (k + 1)) y := by rw [hr1, gm_us]; rfl
    have ho1 : ∀ j, j ≠ 42 → r1 j = r j := fun j hj => by rw [hr1, gm_un hj]
    refine gx_aload_n C 0 dd_Pa_readItem_46 (kk := ?_)
    refine gx_callV C (ct_Pa_readStart (gx_l K) D dA ad mm r1 (te_at_r hX ho1) (im := im) (k := k + 1) (pr_at hkx) (a := a) him hI h42b) me_Pa_readStart ml_Pa_59 mn_Pa_readStart _ (gx_w_at (by decide) (gm_r h42b)) rfl dd_Pa_readItem_47 (kk := fun v w hq => ?_)
    obtain ⟨M, r2, rfl, ho2, hq⟩ := hq
    rcases hs : pr_st X a (k + 1) with f | x
    · rw [hs] at hq
      obtain ⟨rfl, hf, hz⟩ := hq
      refine gx_iret C dd_Pa_readItem_50 ?_
      refine ⟨M, r2, rfl, fun j hj => (ho2 j hj).trans (ho1 j hj), ?_⟩
      rw [pr_it, if_pos h115, hs]
      exact ⟨rfl, hf, hz⟩
    · rw [hs] at hq
      obtain ⟨rfl, hz, hM⟩ := hq
      refine gx_iret C dd_Pa_readItem_50 ?_
      refine ⟨M, r2, rfl, fun j hj => (ho2 j hj).trans (ho1 j hj), ?_⟩
      rw [pr_it, if_pos h115, hs]
      exact ⟨rfl, hz, hM⟩
  by_cases h102 : X[k]? = some 102
  · have hkx := h102
    refine gx_topi (nI 102) (by rw [h102]; rfl) ?_
    refine gx_lookup C 51 dd_Pa_readItem_11 (off := 40) (by decide) (by decide) (by decide) ?_
    refine gx_aload_n C 0 dd_Pa_readItem_51 (kk := ?_)
    refine gx_dup C dd_Pa_readItem_52 (kk := ?_)
    refine gx_get C fd_Pa_19 (gm_r h42) dd_Pa_readItem_53 (kk := ?_)
    refine gx_iconst (v := nI 1) C dd_Pa_readItem_56 (kk := ?_)
    refine gx_iadd C dd_Pa_readItem_57 (kk := ?_)
    refine gx_topi _ (nI_add _ _) ?_
    refine gz_put C fw_Pa_19 h42 dd_Pa_readItem_58 (kk := fun r1 hr1 => ?_)
    have h42b : r1 42 = pa_c ad im (nI (k + 1)) y := by rw [hr1, gm_us]; rfl
    have ho1 : ∀ j, j ≠ 42 → r1 j = r j := fun j hj => by rw [hr1, gm_un hj]
    refine gx_aload_n C 0 dd_Pa_readItem_61 (kk := ?_)
    refine gx_callV C (ct_Pa_readEnd (gx_l K) D dA ad mm r1 (te_at_r hX ho1) (im := im) (k := k + 1) (pr_at hkx) (a := a) him hI h42b) me_Pa_readEnd ml_Pa_62 mn_Pa_readEnd _ (gx_w_at (by decide) (gm_r h42b)) rfl dd_Pa_readItem_62 (kk := fun v w hq => ?_)
    obtain ⟨M, r2, rfl, ho2, hq⟩ := hq
    rcases hs : pr_en X a (k + 1) with f | x
    · rw [hs] at hq
      obtain ⟨rfl, hf, hz⟩ := hq
      refine gx_iret C dd_Pa_readItem_65 ?_
      refine ⟨M, r2, rfl, fun j hj => (ho2 j hj).trans (ho1 j hj), ?_⟩
      rw [pr_it, if_neg h115, if_pos h102, hs]
      exact ⟨rfl, hf, hz⟩
    · rw [hs] at hq
      obtain ⟨rfl, hz, hM⟩ := hq
      refine gx_iret C dd_Pa_readItem_65 ?_
      refine ⟨M, r2, rfl, fun j hj => (ho2 j hj).trans (ho1 j hj), ?_⟩
      rw [pr_it, if_neg h115, if_pos h102, hs]
      exact ⟨rfl, hz, hM⟩
  refine gx_lookup C 66 dd_Pa_readItem_11 (off := 55) (by decide) (pr_off (fun e => h102 (pr_onr (by omega) hX.2.2.2 e)) (fun e => h115 (pr_onr (by omega) hX.2.2.2 e))) (by decide) ?_
  refine gx_aload_n C 0 dd_Pa_readItem_66 (kk := ?_)
  refine gx_callV C (ct_Pa_readArc (gx_l K) D dA ad mm r hX (im := im) (k := k) hk (a := a) him hI h42) me_Pa_readArc ml_Pa_65 mn_Pa_readArc _ (gx_w_at (by decide) (gm_r h42)) rfl dd_Pa_readItem_67 (kk := fun v w hq => ?_)
  obtain ⟨M, r2, rfl, ho2, hq⟩ := hq
  rcases hs : pr_ar X a k with f | x
  · rw [hs] at hq
    obtain ⟨rfl, hf, hz⟩ := hq
    refine gx_iret C dd_Pa_readItem_70 ?_
    refine ⟨M, r2, rfl, ho2, ?_⟩
    rw [pr_it, if_neg h115, if_neg h102, hs]
    exact ⟨rfl, hf, hz⟩
  · rw [hs] at hq
    obtain ⟨rfl, hz, hM⟩ := hq
    refine gx_iret C dd_Pa_readItem_70 ?_
    refine ⟨M, r2, rfl, ho2, ?_⟩
    rw [pr_it, if_neg h115, if_neg h102, hs]
    exact ⟨rfl, hz, hM⟩
def pa_b (v : Option Value) (M : gm_V) (R : Int32 ⊕ am_T) : Prop := match R with
  | .inl f => v = some (.int f) ∧ f ≠ 0
  | .inr a => v = some (.int (nI 0)) ∧ mb_iv M a
set_option maxRecDepth 100000 in
set_option maxHeartbeats 4000000 in
theorem ct_Pa_build (l : Launch) (D : va_G) (dA : Nat → ClassId) (ad : Nat → Nat) (mm : Nat → gm_V) (r : Nat → va_E) {X : List Nat} (hX : te_at dA ad r X) {im : Nat} {t0 m0 : Value} {x0 : Int32} {y0 : Int64} (him : im < 5) (h42 : r 42 = .inr (6, [t0, m0, .int x0, .long y0])) : gx_Ct l D dA yy_Pa_build cc_Pa_build 5 (some .int) 5 0 0 [.ref (ad 42), .ref (ad 40), .ref (ad (2 + 4 * im))] (gx_w ad (gm_h dA ad mm r)) (fun v w => ∃ M r2, w = gx_w ad (gm_h dA ad (va_up mm im M) r2) ∧ (∀ j, j ≠ 42 → r2 j = r j) ∧ (∃ x y, r2 42 = pa_c ad im x y) ∧ pa_b v M (pr_all X)) := by
  refine gx_of (by decide) (Nat.le_of_ble_eq_true rfl) (fun K C _ _ => ?_)
  have hl16 := hX.2.2.1
  obtain ⟨R, hR⟩ : ∃ R, pr_all X = R := ⟨_, rfl⟩
  rw [hR]
  have fail : ∀ c f M r1 x y, f ≠ 0 → r1 42 = pa_c ad im x y → (∀ j, j ≠ 42 → r1 j = r j) → R = .inl f → gx_G K D 5 0 0 23 [(4, .int (nI c)), (3, .int (f)), (0, .ref (ad 42)), (1, .ref (ad 40)), (2, .ref (ad (2 + 4 * im)))] [] (gx_w ad (gm_h dA ad (va_up mm im M) r1)) (gx_Z K D dA 0 0 (fun v w => ∃ M r2, w = gx_w ad (gm_h dA ad (va_up mm im M) r2) ∧ (∀ j, j ≠ 42 → r2 j = r j) ∧ (∃ x y, r2 42 = pa_c ad im x y) ∧ pa_b v M (R))) := by
    intro c f M r1 x y hf hz ho1 hR
    have hX1 : te_at dA ad r1 X := te_at_r hX ho1
    refine gx_iload C 0 dd_Pa_build_23 (kk := ?_)
    refine gx_sipush (v := nI 1600) C dd_Pa_build_25 (kk := ?_)
    refine gx_icmp_ge C 60 dd_Pa_build_28 (fun h28 => ?_) (fun h28 => ?_)
    · refine gx_iload_n C 1 dd_Pa_build_60 (kk := ?_)
      refine gx_iret C dd_Pa_build_61 ?_
      exact ⟨M, r1, rfl, ho1, ⟨_, _, hz⟩, by rw [hR]; exact ⟨rfl, hf⟩⟩
    · refine gx_aload_n C 2 dd_Pa_build_31 (kk := ?_)
      refine gx_get C fd_Pa_19 (gm_r hz) dd_Pa_build_32 (kk := ?_)
      refine gx_aload_n C 2 dd_Pa_build_35 (kk := ?_)
      refine gx_get C fd_Pa_9 (gm_r hz) dd_Pa_build_36 (kk := ?_)
      refine gx_get C fd_Pa_27 (gm_r hX1.1) dd_Pa_build_39 (kk := ?_)
      refine gx_icmp_ge C 60 dd_Pa_build_42 (fun h42 => ?_) (fun h42 => ?_)
      · refine gx_iload_n C 1 dd_Pa_build_60 (kk := ?_)
        refine gx_iret C dd_Pa_build_61 ?_
        exact ⟨M, r1, rfl, ho1, ⟨_, _, hz⟩, by rw [hR]; exact ⟨rfl, hf⟩⟩
      · refine gx_iload_n C 1 dd_Pa_build_45 (kk := ?_)
        refine gx_if_ne C 60 dd_Pa_build_46 (fun h46 => ?_) (fun h46 => absurd h46 hf)
        refine gx_iload_n C 1 dd_Pa_build_60 (kk := ?_)
        refine gx_iret C dd_Pa_build_61 ?_
        exact ⟨M, r1, rfl, ho1, ⟨_, _, hz⟩, by rw [hR]; exact ⟨rfl, hf⟩⟩
  have loop : ∀ m c k a M r1 y, c + m = 1600 → k ≤ X.length → mb_iv M a → r1 42 = pa_c ad im (nI k) y → (∀ j, j ≠ 42 → r1 j = r j) → R = pr_lp X m (k, a) → gx_G K D 5 0 0 23 [(4, .int (nI c)), (3, .int (nI 0)), (0, .ref (ad 42)), (1, .ref (ad 40)), (2, .ref (ad (2 + 4 * im)))] [] (gx_w ad (gm_h dA ad (va_up mm im M) r1)) (gx_Z K D dA 0 0 (fun v w => ∃ M r2, w = gx_w ad (gm_h dA ad (va_up mm im M) r2) ∧ (∀ j, j ≠ 42 → r2 j = r j) ∧ (∃ x y, r2 42 = pa_c ad im x y) ∧ pa_b v M (R))) := by
    intro m
    induction m with
    | zero =>
      intro c k a M r1 y hc hk hI h42a ho1 hR
      refine gx_iload C 0 dd_Pa_build_23 (kk := ?_)
      refine gx_sipush (v := nI 1600) C dd_Pa_build_25 (kk := ?_)
      refine gx_icmp_ge C 60 dd_Pa_build_28 (fun h28 => ?_) (fun h28 => absurd (nI_le (a := 1600) (b := c) (by omega) (by omega)) h28)
      refine gx_iload_n C 1 dd_Pa_build_60 (kk := ?_)
      refine gx_iret C dd_Pa_build_61 ?_
      exact ⟨M, r1, rfl, ho1, ⟨_, _, h42a⟩, by rw [hR]; exact ⟨rfl, hI⟩⟩
    | succ m ih =>
      intro c k a M r1 y hc hk hI h42a ho1 hR
      have hX1 : te_at dA ad r1 X := te_at_r hX ho1
      refine gx_iload C 0 dd_Pa_build_23 (kk := ?_)
      refine gx_sipush (v := nI 1600) C dd_Pa_build_25 (kk := ?_)
      refine gx_icmp_ge C 60 dd_Pa_build_28 (fun h28 => absurd h28 (nI_ge (by omega) (by omega))) (fun h28 => ?_)
      refine gx_aload_n C 2 dd_Pa_build_31 (kk := ?_)
      refine gx_get C fd_Pa_19 (gm_r h42a) dd_Pa_build_32 (kk := ?_)
      refine gx_aload_n C 2 dd_Pa_build_35 (kk := ?_)
      refine gx_get C fd_Pa_9 (gm_r h42a) dd_Pa_build_36 (kk := ?_)
      refine gx_get C fd_Pa_27 (gm_r hX1.1) dd_Pa_build_39 (kk := ?_)
      refine gx_icmp_ge C 60 dd_Pa_build_42 (fun h42 => ?_) (fun h42 => ?_)
      · rw [nI_leI (by omega) (by omega)] at h42
        have hlp : pr_lp X (m + 1) (k, a) = .inr a := by rw [pr_lp, if_neg (show ¬ (k, a).1 < X.length by show ¬ k < _; omega)]
        refine gx_iload_n C 1 dd_Pa_build_60 (kk := ?_)
        refine gx_iret C dd_Pa_build_61 ?_
        exact ⟨M, r1, rfl, ho1, ⟨_, _, h42a⟩, by rw [hR, hlp]; exact ⟨rfl, hI⟩⟩
      · rw [nI_leI (by omega) (by omega)] at h42
        have h42n : (k, a).1 < X.length := by show k < _; omega
        refine gx_iload_n C 1 dd_Pa_build_45 (kk := ?_)
        refine gx_if_ne C 60 dd_Pa_build_46 (fun h46 => absurd rfl h46) (fun h46 => ?_)
        refine gx_aload_n C 2 dd_Pa_build_49 (kk := ?_)
        refine gx_callV C (ct_Pa_readItem (gx_l K) D dA ad (va_up mm im M) r1 hX1 (im := im) (k := k) hk (a := a) him (by rw [gm_us]; exact hI) h42a) me_Pa_readItem ml_Pa_32 mn_Pa_readItem _ (gx_w_at (by decide) (gm_r h42a)) rfl dd_Pa_build_50 (kk := fun v w hq => ?_)
        obtain ⟨M2, r2, rfl, ho2, hq⟩ := hq
        rw [gm_uu]
        have hrest : ∀ j, j ≠ 42 → r2 j = r j := fun j hj => (ho2 j hj).trans (ho1 j hj)
        rcases hs : pr_it X a k with f | ⟨k2, a2⟩
        · rw [hs] at hq
          obtain ⟨rfl, hf, x2, y2, hz2⟩ := hq
          refine gx_istore_n C _ dd_Pa_build_53 (kk := ?_)
          refine gx_iinc C 1 (nI (c + 1)) _ dd_Pa_build_54 (nI_1 c) (kk := ?_)
          refine gx_goto C 23 dd_Pa_build_57 (kk := ?_)
          exact fail (c + 1) f M2 r2 _ _ hf hz2 hrest (by rw [hR, pr_lp, if_pos h42n, pr_bdl hs])
        · rw [hs] at hq
          obtain ⟨rfl, ⟨y2, hy2⟩, hI2⟩ := hq
          have hb2 := pr_it_r hs
          refine gx_istore_n C _ dd_Pa_build_53 (kk := ?_)
          refine gx_iinc C 1 (nI (c + 1)) _ dd_Pa_build_54 (nI_1 c) (kk := ?_)
          refine gx_goto C 23 dd_Pa_build_57 (kk := ?_)
          exact ih (c + 1) k2 a2 M2 r2 _ (by omega) hb2.2.1 hI2 hy2 hrest (by rw [hR, pr_lp, if_pos h42n, pr_bdr hs])
  refine gx_aload_n C 0 dd_Pa_build_0 (kk := ?_)
  refine gx_aload_n C 1 dd_Pa_build_1 (kk := ?_)
  refine gz_put C fw_Pa_9 h42 dd_Pa_build_2 (kk := fun r1 hr1 => ?_)
  have h42a : r1 42 = .inr (6, [.ref (ad 40), m0, .int x0, .long y0]) := by rw [hr1]; exact gm_us
  refine gx_aload_n C 0 dd_Pa_build_5 (kk := ?_)
  refine gx_aload_n C 2 dd_Pa_build_6 (kk := ?_)
  refine gz_put C fw_Pa_15 h42a dd_Pa_build_7 (kk := fun r2 hr2 => ?_)
  have h42b : r2 42 = pa_c ad im x0 y0 := by rw [hr2]; exact gm_us
  refine gx_aload_n C 0 dd_Pa_build_10 (kk := ?_)
  refine gx_iconst (v := nI 0) C dd_Pa_build_11 (kk := ?_)
  refine gz_put C fw_Pa_19 h42b dd_Pa_build_12 (kk := fun r3 hr3 => ?_)
  have h42c : r3 42 = pa_c ad im (nI 0) y0 := by rw [hr3]; exact gm_us
  have ho3 : ∀ j, j ≠ 42 → r3 j = r j := fun j hj => by rw [hr3, gm_un hj, hr2, gm_un hj, hr1, gm_un hj]
  refine gx_aload_n C 0 dd_Pa_build_15 (kk := ?_)
  refine gx_callV C (ct_Pa_readSize (gx_l K) D dA ad mm r3 (te_at_r hX ho3) (im := im) him h42c) me_Pa_readSize ml_Pa_23 mn_Pa_readSize _ (gx_w_at (by decide) (gm_r h42c)) rfl dd_Pa_build_16 (kk := fun v w hq => ?_)
  obtain ⟨M4, r4, rfl, ho4, hq⟩ := hq
  have hrest : ∀ j, j ≠ 42 → r4 j = r j := fun j hj => (ho4 j hj).trans (ho3 j hj)
  rcases hs : pr_s0 X with f | ⟨k, a⟩
  · rw [hs] at hq
    obtain ⟨rfl, hf, x2, y2, hz⟩ := hq
    refine gx_istore_n C _ dd_Pa_build_19 (kk := ?_)
    refine gx_iconst (v := nI 0) C dd_Pa_build_20 (kk := ?_)
    refine gx_istore C _ dd_Pa_build_21 (kk := ?_)
    exact fail 0 f M4 r4 _ _ hf hz hrest (by rw [← hR, pr_all, pr_bdl hs])
  · rw [hs] at hq
    obtain ⟨rfl, ⟨y2, hy⟩, hI⟩ := hq
    have hb := pr_s0_r hs
    refine gx_istore_n C _ dd_Pa_build_19 (kk := ?_)
    refine gx_iconst (v := nI 0) C dd_Pa_build_20 (kk := ?_)
    refine gx_istore C _ dd_Pa_build_21 (kk := ?_)
    exact loop 1600 0 k a M4 r4 _ rfl hb.1 hI hy hrest (by rw [← hR, pr_all, pr_bdr hs])
