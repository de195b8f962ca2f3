theorem dd_Mo_here_0 : decode cc_Mo_here 0 = .ok (.aload_n 0, 1) := by decide +kernel
theorem dd_Mo_here_1 : decode cc_Mo_here 1 = .ok (.getfield 197, 3) := by decide +kernel
theorem dd_Mo_here_4 : decode cc_Mo_here 4 = .ok (.aload_n 0, 1) := by decide +kernel
theorem dd_Mo_here_5 : decode cc_Mo_here 5 = .ok (.getfield 180, 3) := by decide +kernel
theorem dd_Mo_here_8 : decode cc_Mo_here 8 = .ok (.if_icmp .ge 15, 3) := by decide +kernel
theorem dd_Mo_here_11 : decode cc_Mo_here 11 = .ok (.aload_n 0, 1) := by decide +kernel
theorem dd_Mo_here_12 : decode cc_Mo_here 12 = .ok (.getfield 47, 3) := by decide +kernel
theorem dd_Mo_here_15 : decode cc_Mo_here 15 = .ok (.aload_n 0, 1) := by decide +kernel
theorem dd_Mo_here_16 : decode cc_Mo_here 16 = .ok (.getfield 197, 3) := by decide +kernel
theorem dd_Mo_here_19 : decode cc_Mo_here 19 = .ok (.iaload, 1) := by decide +kernel
theorem dd_Mo_here_20 : decode cc_Mo_here 20 = .ok (.goto 4, 3) := by decide +kernel
theorem dd_Mo_here_23 : decode cc_Mo_here 23 = .ok (.iconst 0, 1) := by decide +kernel
theorem dd_Mo_here_24 : decode cc_Mo_here 24 = .ok (.ireturn, 1) := by decide +kernel
theorem dd_Mo_isDigit_0 : decode cc_Mo_isDigit 0 = .ok (.aload_n 0, 1) := by decide +kernel
theorem dd_Mo_isDigit_1 : decode cc_Mo_isDigit 1 = .ok (.invokevirtual 200, 3) := by decide +kernel
theorem dd_Mo_isDigit_4 : decode cc_Mo_isDigit 4 = .ok (.bipush 48, 2) := by decide +kernel
theorem dd_Mo_isDigit_6 : decode cc_Mo_isDigit 6 = .ok (.if_icmp .lt 16, 3) := by decide +kernel
theorem dd_Mo_isDigit_9 : decode cc_Mo_isDigit 9 = .ok (.aload_n 0, 1) := by decide +kernel
theorem dd_Mo_isDigit_10 : decode cc_Mo_isDigit 10 = .ok (.invokevirtual 200, 3) := by decide +kernel
theorem dd_Mo_isDigit_13 : decode cc_Mo_isDigit 13 = .ok (.bipush 57, 2) := by decide +kernel
theorem dd_Mo_isDigit_15 : decode cc_Mo_isDigit 15 = .ok (.if_icmp .gt 7, 3) := by decide +kernel
theorem dd_Mo_isDigit_18 : decode cc_Mo_isDigit 18 = .ok (.iconst 1, 1) := by decide +kernel
theorem dd_Mo_isDigit_19 : decode cc_Mo_isDigit 19 = .ok (.goto 4, 3) := by decide +kernel
theorem dd_Mo_isDigit_22 : decode cc_Mo_isDigit 22 = .ok (.iconst 0, 1) := by decide +kernel
theorem dd_Mo_isDigit_23 : decode cc_Mo_isDigit 23 = .ok (.ireturn, 1) := by decide +kernel
theorem dd_Mo_fail_0 : decode cc_Mo_fail 0 = .ok (.aload_n 0, 1) := by decide +kernel
theorem dd_Mo_fail_1 : decode cc_Mo_fail 1 = .ok (.aload_n 0, 1) := by decide +kernel
theorem dd_Mo_fail_2 : decode cc_Mo_fail 2 = .ok (.getfield 203, 3) := by decide +kernel
theorem dd_Mo_fail_5 : decode cc_Mo_fail 5 = .ok (.ifCond .ne 7, 3) := by decide +kernel
theorem dd_Mo_fail_8 : decode cc_Mo_fail 8 = .ok (.iload_n 1, 1) := by decide +kernel
theorem dd_Mo_fail_9 : decode cc_Mo_fail 9 = .ok (.goto 7, 3) := by decide +kernel
theorem dd_Mo_fail_12 : decode cc_Mo_fail 12 = .ok (.aload_n 0, 1) := by decide +kernel
theorem dd_Mo_fail_13 : decode cc_Mo_fail 13 = .ok (.getfield 203, 3) := by decide +kernel
theorem dd_Mo_fail_16 : decode cc_Mo_fail 16 = .ok (.putfield 203, 3) := by decide +kernel
theorem dd_Mo_fail_19 : decode cc_Mo_fail 19 = .ok (.return_, 1) := by decide +kernel
theorem dd_Mo_take_0 : decode cc_Mo_take 0 = .ok (.aload_n 0, 1) := by decide +kernel
theorem dd_Mo_take_1 : decode cc_Mo_take 1 = .ok (.invokevirtual 200, 3) := by decide +kernel
theorem dd_Mo_take_4 : decode cc_Mo_take 4 = .ok (.iload_n 1, 1) := by decide +kernel
theorem dd_Mo_take_5 : decode cc_Mo_take 5 = .ok (.if_icmp .eq 9, 3) := by decide +kernel
theorem dd_Mo_take_8 : decode cc_Mo_take 8 = .ok (.aload_n 0, 1) := by decide +kernel
theorem dd_Mo_take_9 : decode cc_Mo_take 9 = .ok (.bipush (-4), 2) := by decide +kernel
theorem dd_Mo_take_11 : decode cc_Mo_take 11 = .ok (.invokevirtual 206, 3) := by decide +kernel
theorem dd_Mo_take_14 : decode cc_Mo_take 14 = .ok (.aload_n 0, 1) := by decide +kernel
theorem dd_Mo_take_15 : decode cc_Mo_take 15 = .ok (.dup, 1) := by decide +kernel
theorem dd_Mo_take_16 : decode cc_Mo_take 16 = .ok (.getfield 197, 3) := by decide +kernel
theorem dd_Mo_take_19 : decode cc_Mo_take 19 = .ok (.iconst 1, 1) := by decide +kernel
theorem dd_Mo_take_20 : decode cc_Mo_take 20 = .ok (.iadd, 1) := by decide +kernel
theorem dd_Mo_take_21 : decode cc_Mo_take 21 = .ok (.putfield 197, 3) := by decide +kernel
theorem dd_Mo_take_24 : decode cc_Mo_take 24 = .ok (.return_, 1) := by decide +kernel
theorem dd_Mo_takeIf_0 : decode cc_Mo_takeIf 0 = .ok (.aload_n 0, 1) := by decide +kernel
theorem dd_Mo_takeIf_1 : decode cc_Mo_takeIf 1 = .ok (.getfield 203, 3) := by decide +kernel
theorem dd_Mo_takeIf_4 : decode cc_Mo_takeIf 4 = .ok (.ifCond .ne 8, 3) := by decide +kernel
theorem dd_Mo_takeIf_7 : decode cc_Mo_takeIf 7 = .ok (.aload_n 0, 1) := by decide +kernel
theorem dd_Mo_takeIf_8 : decode cc_Mo_takeIf 8 = .ok (.iload_n 1, 1) := by decide +kernel
theorem dd_Mo_takeIf_9 : decode cc_Mo_takeIf 9 = .ok (.invokevirtual 219, 3) := by decide +kernel
theorem dd_Mo_takeIf_12 : decode cc_Mo_takeIf 12 = .ok (.return_, 1) := by decide +kernel
theorem dd_Mo_takeNumber_0 : decode cc_Mo_takeNumber 0 = .ok (.aload_n 0, 1) := by decide +kernel
theorem dd_Mo_takeNumber_1 : decode cc_Mo_takeNumber 1 = .ok (.getfield 203, 3) := by decide +kernel
theorem dd_Mo_takeNumber_4 : decode cc_Mo_takeNumber 4 = .ok (.ifCond .eq 5, 3) := by decide +kernel
theorem dd_Mo_takeNumber_7 : decode cc_Mo_takeNumber 7 = .ok (.lconst 0, 1) := by decide +kernel
theorem dd_Mo_takeNumber_8 : decode cc_Mo_takeNumber 8 = .ok (.lreturn, 1) := by decide +kernel
theorem dd_Mo_takeNumber_9 : decode cc_Mo_takeNumber 9 = .ok (.aload_n 0, 1) := by decide +kernel
theorem dd_Mo_takeNumber_10 : decode cc_Mo_takeNumber 10 = .ok (.invokevirtual 209, 3) := by decide +kernel
theorem dd_Mo_takeNumber_13 : decode cc_Mo_takeNumber 13 = .ok (.ifCond .ne 11, 3) := by decide +kernel
theorem dd_Mo_takeNumber_16 : decode cc_Mo_takeNumber 16 = .ok (.aload_n 0, 1) := by decide +kernel
theorem dd_Mo_takeNumber_17 : decode cc_Mo_takeNumber 17 = .ok (.bipush (-4), 2) := by decide +kernel
theorem dd_Mo_takeNumber_19 : decode cc_Mo_takeNumber 19 = .ok (.invokevirtual 206, 3) := by decide +kernel
theorem dd_Mo_takeNumber_22 : decode cc_Mo_takeNumber 22 = .ok (.lconst 0, 1) := by decide +kernel
theorem dd_Mo_takeNumber_23 : decode cc_Mo_takeNumber 23 = .ok (.lreturn, 1) := by decide +kernel
theorem dd_Mo_takeNumber_24 : decode cc_Mo_takeNumber 24 = .ok (.aload_n 0, 1) := by decide +kernel
theorem dd_Mo_takeNumber_25 : decode cc_Mo_takeNumber 25 = .ok (.invokevirtual 200, 3) := by decide +kernel
theorem dd_Mo_takeNumber_28 : decode cc_Mo_takeNumber 28 = .ok (.bipush 48, 2) := by decide +kernel
theorem dd_Mo_takeNumber_30 : decode cc_Mo_takeNumber 30 = .ok (.isub, 1) := by decide +kernel
theorem dd_Mo_takeNumber_31 : decode cc_Mo_takeNumber 31 = .ok (.i2l, 1) := by decide +kernel
theorem dd_Mo_takeNumber_32 : decode cc_Mo_takeNumber 32 = .ok (.lstore_n 3, 1) := by decide +kernel
theorem dd_Mo_takeNumber_33 : decode cc_Mo_takeNumber 33 = .ok (.aload_n 0, 1) := by decide +kernel
theorem dd_Mo_takeNumber_34 : decode cc_Mo_takeNumber 34 = .ok (.dup, 1) := by decide +kernel
theorem dd_Mo_takeNumber_35 : decode cc_Mo_takeNumber 35 = .ok (.getfield 197, 3) := by decide +kernel
theorem dd_Mo_takeNumber_38 : decode cc_Mo_takeNumber 38 = .ok (.iconst 1, 1) := by decide +kernel
theorem dd_Mo_takeNumber_39 : decode cc_Mo_takeNumber 39 = .ok (.iadd, 1) := by decide +kernel
theorem dd_Mo_takeNumber_40 : decode cc_Mo_takeNumber 40 = .ok (.putfield 197, 3) := by decide +kernel
theorem dd_Mo_takeNumber_43 : decode cc_Mo_takeNumber 43 = .ok (.iconst 1, 1) := by decide +kernel
theorem dd_Mo_takeNumber_44 : decode cc_Mo_takeNumber 44 = .ok (.istore 5, 2) := by decide +kernel
theorem dd_Mo_takeNumber_46 : decode cc_Mo_takeNumber 46 = .ok (.iload 5, 2) := by decide +kernel
theorem dd_Mo_takeNumber_48 : decode cc_Mo_takeNumber 48 = .ok (.bipush 10, 2) := by decide +kernel
theorem dd_Mo_takeNumber_50 : decode cc_Mo_takeNumber 50 = .ok (.if_icmp .ge 48, 3) := by decide +kernel
theorem dd_Mo_takeNumber_53 : decode cc_Mo_takeNumber 53 = .ok (.lload_n 3, 1) := by decide +kernel
theorem dd_Mo_takeNumber_54 : decode cc_Mo_takeNumber 54 = .ok (.lconst 0, 1) := by decide +kernel
theorem dd_Mo_takeNumber_55 : decode cc_Mo_takeNumber 55 = .ok (.lcmp, 1) := by decide +kernel
theorem dd_Mo_takeNumber_56 : decode cc_Mo_takeNumber 56 = .ok (.ifCond .le 42, 3) := by decide +kernel
theorem dd_Mo_takeNumber_59 : decode cc_Mo_takeNumber 59 = .ok (.aload_n 0, 1) := by decide +kernel
theorem dd_Mo_takeNumber_60 : decode cc_Mo_takeNumber 60 = .ok (.invokevirtual 209, 3) := by decide +kernel
theorem dd_Mo_takeNumber_63 : decode cc_Mo_takeNumber 63 = .ok (.ifCond .eq 35, 3) := by decide +kernel
theorem dd_Mo_takeNumber_66 : decode cc_Mo_takeNumber 66 = .ok (.ldc2_w 183, 3) := by decide +kernel
theorem dd_Mo_takeNumber_69 : decode cc_Mo_takeNumber 69 = .ok (.lload_n 3, 1) := by decide +kernel
theorem dd_Mo_takeNumber_70 : decode cc_Mo_takeNumber 70 = .ok (.lmul, 1) := by decide +kernel
theorem dd_Mo_takeNumber_71 : decode cc_Mo_takeNumber 71 = .ok (.aload_n 0, 1) := by decide +kernel
theorem dd_Mo_takeNumber_72 : decode cc_Mo_takeNumber 72 = .ok (.invokevirtual 200, 3) := by decide +kernel
theorem dd_Mo_takeNumber_75 : decode cc_Mo_takeNumber 75 = .ok (.i2l, 1) := by decide +kernel
theorem dd_Mo_takeNumber_76 : decode cc_Mo_takeNumber 76 = .ok (.ladd, 1) := by decide +kernel
theorem dd_Mo_takeNumber_77 : decode cc_Mo_takeNumber 77 = .ok (.ldc2_w 213, 3) := by decide +kernel
theorem dd_Mo_takeNumber_80 : decode cc_Mo_takeNumber 80 = .ok (.lsub, 1) := by decide +kernel
theorem dd_Mo_takeNumber_81 : decode cc_Mo_takeNumber 81 = .ok (.lstore_n 3, 1) := by decide +kernel
theorem dd_Mo_takeNumber_82 : decode cc_Mo_takeNumber 82 = .ok (.aload_n 0, 1) := by decide +kernel
theorem dd_Mo_takeNumber_83 : decode cc_Mo_takeNumber 83 = .ok (.dup, 1) := by decide +kernel
theorem dd_Mo_takeNumber_84 : decode cc_Mo_takeNumber 84 = .ok (.getfield 197, 3) := by decide +kernel
theorem dd_Mo_takeNumber_87 : decode cc_Mo_takeNumber 87 = .ok (.iconst 1, 1) := by decide +kernel
theorem dd_Mo_takeNumber_88 : decode cc_Mo_takeNumber 88 = .ok (.iadd, 1) := by decide +kernel
theorem dd_Mo_takeNumber_89 : decode cc_Mo_takeNumber 89 = .ok (.putfield 197, 3) := by decide +kernel
theorem dd_Mo_takeNumber_92 : decode cc_Mo_takeNumber 92 = .ok (.iinc 5 1, 3) := by decide +kernel
theorem dd_Mo_takeNumber_95 : decode cc_Mo_takeNumber 95 = .ok (.goto (-49), 3) := by decide +kernel
theorem dd_Mo_takeNumber_98 : decode cc_Mo_takeNumber 98 = .ok (.aload_n 0, 1) := by decide +kernel
theorem dd_Mo_takeNumber_99 : decode cc_Mo_takeNumber 99 = .ok (.invokevirtual 209, 3) := by decide +kernel
theorem dd_Mo_takeNumber_102 : decode cc_Mo_takeNumber 102 = .ok (.ifCond .eq 12, 3) := by decide +kernel
theorem dd_Mo_takeNumber_105 : decode cc_Mo_takeNumber 105 = .ok (.aload_n 0, 1) := by decide +kernel
theorem dd_Mo_takeNumber_106 : decode cc_Mo_takeNumber 106 = .ok (.bipush (-4), 2) := by decide +kernel
theorem dd_Mo_takeNumber_108 : decode cc_Mo_takeNumber 108 = .ok (.invokevirtual 206, 3) := by decide +kernel
theorem dd_Mo_takeNumber_111 : decode cc_Mo_takeNumber 111 = .ok (.goto 15, 3) := by decide +kernel
theorem dd_Mo_takeNumber_114 : decode cc_Mo_takeNumber 114 = .ok (.lload_n 3, 1) := by decide +kernel
theorem dd_Mo_takeNumber_115 : decode cc_Mo_takeNumber 115 = .ok (.lload_n 1, 1) := by decide +kernel
theorem dd_Mo_takeNumber_116 : decode cc_Mo_takeNumber 116 = .ok (.lcmp, 1) := by decide +kernel
theorem dd_Mo_takeNumber_117 : decode cc_Mo_takeNumber 117 = .ok (.ifCond .le 9, 3) := by decide +kernel
theorem dd_Mo_takeNumber_120 : decode cc_Mo_takeNumber 120 = .ok (.aload_n 0, 1) := by decide +kernel
theorem dd_Mo_takeNumber_121 : decode cc_Mo_takeNumber 121 = .ok (.bipush (-5), 2) := by decide +kernel
theorem dd_Mo_takeNumber_123 : decode cc_Mo_takeNumber 123 = .ok (.invokevirtual 206, 3) := by decide +kernel
theorem dd_Mo_takeNumber_126 : decode cc_Mo_takeNumber 126 = .ok (.lload_n 3, 1) := by decide +kernel
theorem dd_Mo_takeNumber_127 : decode cc_Mo_takeNumber 127 = .ok (.lreturn, 1) := by decide +kernel
theorem dd_Mo_takeState_0 : decode cc_Mo_takeState 0 = .ok (.aload_n 0, 1) := by decide +kernel
theorem dd_Mo_takeState_1 : decode cc_Mo_takeState 1 = .ok (.aload_n 0, 1) := by decide +kernel
theorem dd_Mo_takeState_2 : decode cc_Mo_takeState 2 = .ok (.getfield 7, 3) := by decide +kernel
theorem dd_Mo_takeState_5 : decode cc_Mo_takeState 5 = .ok (.iconst 4, 1) := by decide +kernel
theorem dd_Mo_takeState_6 : decode cc_Mo_takeState 6 = .ok (.iaload, 1) := by decide +kernel
theorem dd_Mo_takeState_7 : decode cc_Mo_takeState 7 = .ok (.iconst 1, 1) := by decide +kernel
theorem dd_Mo_takeState_8 : decode cc_Mo_takeState 8 = .ok (.isub, 1) := by decide +kernel
theorem dd_Mo_takeState_9 : decode cc_Mo_takeState 9 = .ok (.i2l, 1) := by decide +kernel
theorem dd_Mo_takeState_10 : decode cc_Mo_takeState 10 = .ok (.invokevirtual 215, 3) := by decide +kernel
theorem dd_Mo_takeState_13 : decode cc_Mo_takeState 13 = .ok (.l2i, 1) := by decide +kernel
theorem dd_Mo_takeState_14 : decode cc_Mo_takeState 14 = .ok (.ireturn, 1) := by decide +kernel
theorem dd_Mo_takeLabel_0 : decode cc_Mo_takeLabel 0 = .ok (.aload_n 0, 1) := by decide +kernel
theorem dd_Mo_takeLabel_1 : decode cc_Mo_takeLabel 1 = .ok (.getfield 203, 3) := by decide +kernel
theorem dd_Mo_takeLabel_4 : decode cc_Mo_takeLabel 4 = .ok (.ifCond .eq 5, 3) := by decide +kernel
theorem dd_Mo_takeLabel_7 : decode cc_Mo_takeLabel 7 = .ok (.iconst 0, 1) := by decide +kernel
theorem dd_Mo_takeLabel_8 : decode cc_Mo_takeLabel 8 = .ok (.ireturn, 1) := by decide +kernel
theorem dd_Mo_takeLabel_9 : decode cc_Mo_takeLabel 9 = .ok (.aload_n 0, 1) := by decide +kernel
theorem dd_Mo_takeLabel_10 : decode cc_Mo_takeLabel 10 = .ok (.invokevirtual 209, 3) := by decide +kernel
theorem dd_Mo_takeLabel_13 : decode cc_Mo_takeLabel 13 = .ok (.ifCond .ne 11, 3) := by decide +kernel
theorem dd_Mo_takeLabel_16 : decode cc_Mo_takeLabel 16 = .ok (.aload_n 0, 1) := by decide +kernel
theorem dd_Mo_takeLabel_17 : decode cc_Mo_takeLabel 17 = .ok (.bipush (-4), 2) := by decide +kernel
theorem dd_Mo_takeLabel_19 : decode cc_Mo_takeLabel 19 = .ok (.invokevirtual 206, 3) := by decide +kernel
theorem dd_Mo_takeLabel_22 : decode cc_Mo_takeLabel 22 = .ok (.iconst 0, 1) := by decide +kernel
theorem dd_Mo_takeLabel_23 : decode cc_Mo_takeLabel 23 = .ok (.ireturn, 1) := by decide +kernel
theorem dd_Mo_takeLabel_24 : decode cc_Mo_takeLabel 24 = .ok (.aload_n 0, 1) := by decide +kernel
theorem dd_Mo_takeLabel_25 : decode cc_Mo_takeLabel 25 = .ok (.invokevirtual 200, 3) := by decide +kernel
theorem dd_Mo_takeLabel_28 : decode cc_Mo_takeLabel 28 = .ok (.bipush 48, 2) := by decide +kernel
theorem dd_Mo_takeLabel_30 : decode cc_Mo_takeLabel 30 = .ok (.isub, 1) := by decide +kernel
theorem dd_Mo_takeLabel_31 : decode cc_Mo_takeLabel 31 = .ok (.istore_n 1, 1) := by decide +kernel
theorem dd_Mo_takeLabel_32 : decode cc_Mo_takeLabel 32 = .ok (.aload_n 0, 1) := by decide +kernel
theorem dd_Mo_takeLabel_33 : decode cc_Mo_takeLabel 33 = .ok (.dup, 1) := by decide +kernel
theorem dd_Mo_takeLabel_34 : decode cc_Mo_takeLabel 34 = .ok (.getfield 197, 3) := by decide +kernel
theorem dd_Mo_takeLabel_37 : decode cc_Mo_takeLabel 37 = .ok (.iconst 1, 1) := by decide +kernel
theorem dd_Mo_takeLabel_38 : decode cc_Mo_takeLabel 38 = .ok (.iadd, 1) := by decide +kernel
theorem dd_Mo_takeLabel_39 : decode cc_Mo_takeLabel 39 = .ok (.putfield 197, 3) := by decide +kernel
theorem dd_Mo_takeLabel_42 : decode cc_Mo_takeLabel 42 = .ok (.iload_n 1, 1) := by decide +kernel
theorem dd_Mo_takeLabel_43 : decode cc_Mo_takeLabel 43 = .ok (.bipush 7, 2) := by decide +kernel
theorem dd_Mo_takeLabel_45 : decode cc_Mo_takeLabel 45 = .ok (.if_icmp .le 9, 3) := by decide +kernel
theorem dd_Mo_takeLabel_48 : decode cc_Mo_takeLabel 48 = .ok (.aload_n 0, 1) := by decide +kernel
theorem dd_Mo_takeLabel_49 : decode cc_Mo_takeLabel 49 = .ok (.bipush (-5), 2) := by decide +kernel
theorem dd_Mo_takeLabel_51 : decode cc_Mo_takeLabel 51 = .ok (.invokevirtual 206, 3) := by decide +kernel
theorem dd_Mo_takeLabel_54 : decode cc_Mo_takeLabel 54 = .ok (.iload_n 1, 1) := by decide +kernel
theorem dd_Mo_takeLabel_55 : decode cc_Mo_takeLabel 55 = .ok (.ireturn, 1) := by decide +kernel
theorem dd_Mo_parseEnds_0 : decode cc_Mo_parseEnds 0 = .ok (.aload_n 0, 1) := by decide +kernel
theorem dd_Mo_parseEnds_1 : decode cc_Mo_parseEnds 1 = .ok (.dup, 1) := by decide +kernel
theorem dd_Mo_parseEnds_2 : decode cc_Mo_parseEnds 2 = .ok (.getfield 197, 3) := by decide +kernel
theorem dd_Mo_parseEnds_5 : decode cc_Mo_parseEnds 5 = .ok (.iconst 1, 1) := by decide +kernel
theorem dd_Mo_parseEnds_6 : decode cc_Mo_parseEnds 6 = .ok (.iadd, 1) := by decide +kernel
theorem dd_Mo_parseEnds_7 : decode cc_Mo_parseEnds 7 = .ok (.putfield 197, 3) := by decide +kernel
theorem dd_Mo_parseEnds_10 : decode cc_Mo_parseEnds 10 = .ok (.aload_n 0, 1) := by decide +kernel
theorem dd_Mo_parseEnds_11 : decode cc_Mo_parseEnds 11 = .ok (.invokevirtual 222, 3) := by decide +kernel
theorem dd_Mo_parseEnds_14 : decode cc_Mo_parseEnds 14 = .ok (.istore_n 2, 1) := by decide +kernel
theorem dd_Mo_parseEnds_15 : decode cc_Mo_parseEnds 15 = .ok (.aload_n 0, 1) := by decide +kernel
theorem dd_Mo_parseEnds_16 : decode cc_Mo_parseEnds 16 = .ok (.getfield 203, 3) := by decide +kernel
theorem dd_Mo_parseEnds_19 : decode cc_Mo_parseEnds 19 = .ok (.ifCond .ne 39, 3) := by decide +kernel
theorem dd_Mo_parseEnds_22 : decode cc_Mo_parseEnds 22 = .ok (.iload_n 1, 1) := by decide +kernel
theorem dd_Mo_parseEnds_23 : decode cc_Mo_parseEnds 23 = .ok (.ifCond .eq 15, 3) := by decide +kernel
theorem dd_Mo_parseEnds_26 : decode cc_Mo_parseEnds 26 = .ok (.aload_n 0, 1) := by decide +kernel
theorem dd_Mo_parseEnds_27 : decode cc_Mo_parseEnds 27 = .ok (.getfield 13, 3) := by decide +kernel
theorem dd_Mo_parseEnds_30 : decode cc_Mo_parseEnds 30 = .ok (.iconst 4, 1) := by decide +kernel
theorem dd_Mo_parseEnds_31 : decode cc_Mo_parseEnds 31 = .ok (.iaload, 1) := by decide +kernel
theorem dd_Mo_parseEnds_32 : decode cc_Mo_parseEnds 32 = .ok (.ifCond .lt 26, 3) := by decide +kernel
theorem dd_Mo_parseEnds_35 : decode cc_Mo_parseEnds 35 = .ok (.goto 17, 3) := by decide +kernel
theorem dd_Mo_parseEnds_38 : decode cc_Mo_parseEnds 38 = .ok (.aload_n 0, 1) := by decide +kernel
theorem dd_Mo_parseEnds_39 : decode cc_Mo_parseEnds 39 = .ok (.getfield 20, 3) := by decide +kernel
theorem dd_Mo_parseEnds_42 : decode cc_Mo_parseEnds 42 = .ok (.bipush 64, 2) := by decide +kernel
theorem dd_Mo_parseEnds_44 : decode cc_Mo_parseEnds 44 = .ok (.iload_n 2, 1) := by decide +kernel
theorem dd_Mo_parseEnds_45 : decode cc_Mo_parseEnds 45 = .ok (.iadd, 1) := by decide +kernel
theorem dd_Mo_parseEnds_46 : decode cc_Mo_parseEnds 46 = .ok (.laload, 1) := by decide +kernel
theorem dd_Mo_parseEnds_47 : decode cc_Mo_parseEnds 47 = .ok (.lconst 0, 1) := by decide +kernel
theorem dd_Mo_parseEnds_48 : decode cc_Mo_parseEnds 48 = .ok (.lcmp, 1) := by decide +kernel
theorem dd_Mo_parseEnds_49 : decode cc_Mo_parseEnds 49 = .ok (.ifCond .lt 9, 3) := by decide +kernel
theorem dd_Mo_parseEnds_52 : decode cc_Mo_parseEnds 52 = .ok (.aload_n 0, 1) := by decide +kernel
theorem dd_Mo_parseEnds_53 : decode cc_Mo_parseEnds 53 = .ok (.bipush (-6), 2) := by decide +kernel
theorem dd_Mo_parseEnds_55 : decode cc_Mo_parseEnds 55 = .ok (.invokevirtual 206, 3) := by decide +kernel
theorem dd_Mo_parseEnds_58 : decode cc_Mo_parseEnds 58 = .ok (.aload_n 0, 1) := by decide +kernel
theorem dd_Mo_parseEnds_59 : decode cc_Mo_parseEnds 59 = .ok (.bipush 47, 2) := by decide +kernel
theorem dd_Mo_parseEnds_61 : decode cc_Mo_parseEnds 61 = .ok (.invokevirtual 225, 3) := by decide +kernel
theorem dd_Mo_parseEnds_64 : decode cc_Mo_parseEnds 64 = .ok (.aload_n 0, 1) := by decide +kernel
theorem dd_Mo_parseEnds_65 : decode cc_Mo_parseEnds 65 = .ok (.ldc2_w 85, 3) := by decide +kernel
theorem dd_Mo_parseEnds_68 : decode cc_Mo_parseEnds 68 = .ok (.invokevirtual 215, 3) := by decide +kernel
theorem dd_Mo_parseEnds_71 : decode cc_Mo_parseEnds 71 = .ok (.lstore_n 3, 1) := by decide +kernel
theorem dd_Mo_parseEnds_72 : decode cc_Mo_parseEnds 72 = .ok (.aload_n 0, 1) := by decide +kernel
theorem dd_Mo_parseEnds_73 : decode cc_Mo_parseEnds 73 = .ok (.bipush 59, 2) := by decide +kernel
theorem dd_Mo_parseEnds_75 : decode cc_Mo_parseEnds 75 = .ok (.invokevirtual 225, 3) := by decide +kernel
theorem dd_Mo_parseEnds_78 : decode cc_Mo_parseEnds 78 = .ok (.aload_n 0, 1) := by decide +kernel
theorem dd_Mo_parseEnds_79 : decode cc_Mo_parseEnds 79 = .ok (.getfield 203, 3) := by decide +kernel
theorem dd_Mo_parseEnds_82 : decode cc_Mo_parseEnds 82 = .ok (.ifCond .ne 24, 3) := by decide +kernel
theorem dd_Mo_parseEnds_85 : decode cc_Mo_parseEnds 85 = .ok (.iload_n 1, 1) := by decide +kernel
theorem dd_Mo_parseEnds_86 : decode cc_Mo_parseEnds 86 = .ok (.ifCond .eq 20, 3) := by decide +kernel
theorem dd_Mo_parseEnds_89 : decode cc_Mo_parseEnds 89 = .ok (.aload_n 0, 1) := by decide +kernel
theorem dd_Mo_parseEnds_90 : decode cc_Mo_parseEnds 90 = .ok (.getfield 13, 3) := by decide +kernel
theorem dd_Mo_parseEnds_93 : decode cc_Mo_parseEnds 93 = .ok (.iconst 4, 1) := by decide +kernel
theorem dd_Mo_parseEnds_94 : decode cc_Mo_parseEnds 94 = .ok (.iload_n 2, 1) := by decide +kernel
theorem dd_Mo_parseEnds_95 : decode cc_Mo_parseEnds 95 = .ok (.iastore, 1) := by decide +kernel
theorem dd_Mo_parseEnds_96 : decode cc_Mo_parseEnds 96 = .ok (.aload_n 0, 1) := by decide +kernel
theorem dd_Mo_parseEnds_97 : decode cc_Mo_parseEnds 97 = .ok (.getfield 16, 3) := by decide +kernel
theorem dd_Mo_parseEnds_100 : decode cc_Mo_parseEnds 100 = .ok (.iconst 4, 1) := by decide +kernel
theorem dd_Mo_parseEnds_101 : decode cc_Mo_parseEnds 101 = .ok (.lload_n 3, 1) := by decide +kernel
theorem dd_Mo_parseEnds_102 : decode cc_Mo_parseEnds 102 = .ok (.lastore, 1) := by decide +kernel
theorem dd_Mo_parseEnds_103 : decode cc_Mo_parseEnds 103 = .ok (.goto 20, 3) := by decide +kernel
theorem dd_Mo_parseEnds_106 : decode cc_Mo_parseEnds 106 = .ok (.aload_n 0, 1) := by decide +kernel
theorem dd_Mo_parseEnds_107 : decode cc_Mo_parseEnds 107 = .ok (.getfield 203, 3) := by decide +kernel
theorem dd_Mo_parseEnds_110 : decode cc_Mo_parseEnds 110 = .ok (.ifCond .ne 13, 3) := by decide +kernel
theorem dd_Mo_parseEnds_113 : decode cc_Mo_parseEnds 113 = .ok (.aload_n 0, 1) := by decide +kernel
theorem dd_Mo_parseEnds_114 : decode cc_Mo_parseEnds 114 = .ok (.getfield 20, 3) := by decide +kernel
theorem dd_Mo_parseEnds_117 : decode cc_Mo_parseEnds 117 = .ok (.bipush 64, 2) := by decide +kernel
theorem dd_Mo_parseEnds_119 : decode cc_Mo_parseEnds 119 = .ok (.iload_n 2, 1) := by decide +kernel
theorem dd_Mo_parseEnds_120 : decode cc_Mo_parseEnds 120 = .ok (.iadd, 1) := by decide +kernel
theorem dd_Mo_parseEnds_121 : decode cc_Mo_parseEnds 121 = .ok (.lload_n 3, 1) := by decide +kernel
theorem dd_Mo_parseEnds_122 : decode cc_Mo_parseEnds 122 = .ok (.lastore, 1) := by decide +kernel
theorem dd_Mo_parseEnds_123 : decode cc_Mo_parseEnds 123 = .ok (.return_, 1) := by decide +kernel
theorem dd_Mo_parseArc_0 : decode cc_Mo_parseArc 0 = .ok (.aload_n 0, 1) := by decide +kernel
theorem dd_Mo_parseArc_1 : decode cc_Mo_parseArc 1 = .ok (.invokevirtual 222, 3) := by decide +kernel
theorem dd_Mo_parseArc_4 : decode cc_Mo_parseArc 4 = .ok (.istore_n 1, 1) := by decide +kernel
theorem dd_Mo_parseArc_5 : decode cc_Mo_parseArc 5 = .ok (.aload_n 0, 1) := by decide +kernel
theorem dd_Mo_parseArc_6 : decode cc_Mo_parseArc 6 = .ok (.bipush 45, 2) := by decide +kernel
theorem dd_Mo_parseArc_8 : decode cc_Mo_parseArc 8 = .ok (.invokevirtual 225, 3) := by decide +kernel
theorem dd_Mo_parseArc_11 : decode cc_Mo_parseArc 11 = .ok (.aload_n 0, 1) := by decide +kernel
theorem dd_Mo_parseArc_12 : decode cc_Mo_parseArc 12 = .ok (.invokevirtual 222, 3) := by decide +kernel
theorem dd_Mo_parseArc_15 : decode cc_Mo_parseArc 15 = .ok (.istore_n 2, 1) := by decide +kernel
theorem dd_Mo_parseArc_16 : decode cc_Mo_parseArc 16 = .ok (.aload_n 0, 1) := by decide +kernel
theorem dd_Mo_parseArc_17 : decode cc_Mo_parseArc 17 = .ok (.bipush 58, 2) := by decide +kernel
theorem dd_Mo_parseArc_19 : decode cc_Mo_parseArc 19 = .ok (.invokevirtual 225, 3) := by decide +kernel
theorem dd_Mo_parseArc_22 : decode cc_Mo_parseArc 22 = .ok (.aload_n 0, 1) := by decide +kernel
theorem dd_Mo_parseArc_23 : decode cc_Mo_parseArc 23 = .ok (.invokevirtual 228, 3) := by decide +kernel
theorem dd_Mo_parseArc_26 : decode cc_Mo_parseArc 26 = .ok (.istore_n 3, 1) := by decide +kernel
theorem dd_Mo_parseArc_27 : decode cc_Mo_parseArc 27 = .ok (.aload_n 0, 1) := by decide +kernel
theorem dd_Mo_parseArc_28 : decode cc_Mo_parseArc 28 = .ok (.invokevirtual 228, 3) := by decide +kernel
theorem dd_Mo_parseArc_31 : decode cc_Mo_parseArc 31 = .ok (.istore 4, 2) := by decide +kernel
theorem dd_Mo_parseArc_33 : decode cc_Mo_parseArc 33 = .ok (.aload_n 0, 1) := by decide +kernel
theorem dd_Mo_parseArc_34 : decode cc_Mo_parseArc 34 = .ok (.bipush 47, 2) := by decide +kernel
theorem dd_Mo_parseArc_36 : decode cc_Mo_parseArc 36 = .ok (.invokevirtual 225, 3) := by decide +kernel
theorem dd_Mo_parseArc_39 : decode cc_Mo_parseArc 39 = .ok (.aload_n 0, 1) := by decide +kernel
theorem dd_Mo_parseArc_40 : decode cc_Mo_parseArc 40 = .ok (.ldc2_w 85, 3) := by decide +kernel
theorem dd_Mo_parseArc_43 : decode cc_Mo_parseArc 43 = .ok (.invokevirtual 215, 3) := by decide +kernel
theorem dd_Mo_parseArc_46 : decode cc_Mo_parseArc 46 = .ok (.lstore 5, 2) := by decide +kernel
theorem dd_Mo_parseArc_48 : decode cc_Mo_parseArc 48 = .ok (.aload_n 0, 1) := by decide +kernel
theorem dd_Mo_parseArc_49 : decode cc_Mo_parseArc 49 = .ok (.bipush 59, 2) := by decide +kernel
theorem dd_Mo_parseArc_51 : decode cc_Mo_parseArc 51 = .ok (.invokevirtual 225, 3) := by decide +kernel
theorem dd_Mo_parseArc_54 : decode cc_Mo_parseArc 54 = .ok (.aload_n 0, 1) := by decide +kernel
theorem dd_Mo_parseArc_55 : decode cc_Mo_parseArc 55 = .ok (.getfield 203, 3) := by decide +kernel
theorem dd_Mo_parseArc_58 : decode cc_Mo_parseArc 58 = .ok (.ifCond .ne 24, 3) := by decide +kernel
theorem dd_Mo_parseArc_61 : decode cc_Mo_parseArc 61 = .ok (.aload_n 0, 1) := by decide +kernel
theorem dd_Mo_parseArc_62 : decode cc_Mo_parseArc 62 = .ok (.iconst 4, 1) := by decide +kernel
theorem dd_Mo_parseArc_63 : decode cc_Mo_parseArc 63 = .ok (.iload_n 1, 1) := by decide +kernel
theorem dd_Mo_parseArc_64 : decode cc_Mo_parseArc 64 = .ok (.iload_n 2, 1) := by decide +kernel
theorem dd_Mo_parseArc_65 : decode cc_Mo_parseArc 65 = .ok (.iload_n 3, 1) := by decide +kernel
theorem dd_Mo_parseArc_66 : decode cc_Mo_parseArc 66 = .ok (.iload 4, 2) := by decide +kernel
theorem dd_Mo_parseArc_68 : decode cc_Mo_parseArc 68 = .ok (.lload 5, 2) := by decide +kernel
theorem dd_Mo_parseArc_70 : decode cc_Mo_parseArc 70 = .ok (.invokevirtual 99, 3) := by decide +kernel
theorem dd_Mo_parseArc_73 : decode cc_Mo_parseArc 73 = .ok (.ifCond .ne 9, 3) := by decide +kernel
theorem dd_Mo_parseArc_76 : decode cc_Mo_parseArc 76 = .ok (.aload_n 0, 1) := by decide +kernel
theorem dd_Mo_parseArc_77 : decode cc_Mo_parseArc 77 = .ok (.bipush (-2), 2) := by decide +kernel
theorem dd_Mo_parseArc_79 : decode cc_Mo_parseArc 79 = .ok (.invokevirtual 206, 3) := by decide +kernel
theorem dd_Mo_parseArc_82 : decode cc_Mo_parseArc 82 = .ok (.return_, 1) := by decide +kernel
theorem dd_Mo_parse_0 : decode cc_Mo_parse 0 = .ok (.iload_n 1, 1) := by decide +kernel
theorem dd_Mo_parse_1 : decode cc_Mo_parse 1 = .ok (.invokestatic 81, 3) := by decide +kernel
theorem dd_Mo_parse_4 : decode cc_Mo_parse 4 = .ok (.ifCond .ne 5, 3) := by decide +kernel
theorem dd_Mo_parse_7 : decode cc_Mo_parse 7 = .ok (.iconst (-1), 1) := by decide +kernel
theorem dd_Mo_parse_8 : decode cc_Mo_parse 8 = .ok (.ireturn, 1) := by decide +kernel
theorem dd_Mo_parse_9 : decode cc_Mo_parse 9 = .ok (.aload_n 0, 1) := by decide +kernel
theorem dd_Mo_parse_10 : decode cc_Mo_parse 10 = .ok (.iconst 0, 1) := by decide +kernel
theorem dd_Mo_parse_11 : decode cc_Mo_parse 11 = .ok (.putfield 197, 3) := by decide +kernel
theorem dd_Mo_parse_14 : decode cc_Mo_parse 14 = .ok (.aload_n 0, 1) := by decide +kernel
theorem dd_Mo_parse_15 : decode cc_Mo_parse 15 = .ok (.iconst 0, 1) := by decide +kernel
theorem dd_Mo_parse_16 : decode cc_Mo_parse 16 = .ok (.putfield 203, 3) := by decide +kernel
theorem dd_Mo_parse_19 : decode cc_Mo_parse 19 = .ok (.aload_n 0, 1) := by decide +kernel
theorem dd_Mo_parse_20 : decode cc_Mo_parse 20 = .ok (.iconst 4, 1) := by decide +kernel
theorem dd_Mo_parse_21 : decode cc_Mo_parse 21 = .ok (.iconst 0, 1) := by decide +kernel
theorem dd_Mo_parse_22 : decode cc_Mo_parse 22 = .ok (.invokevirtual 75, 3) := by decide +kernel
theorem dd_Mo_parse_25 : decode cc_Mo_parse 25 = .ok (.aload_n 0, 1) := by decide +kernel
theorem dd_Mo_parse_26 : decode cc_Mo_parse 26 = .ok (.bipush 110, 2) := by decide +kernel
theorem dd_Mo_parse_28 : decode cc_Mo_parse 28 = .ok (.invokevirtual 225, 3) := by decide +kernel
theorem dd_Mo_parse_31 : decode cc_Mo_parse 31 = .ok (.aload_n 0, 1) := by decide +kernel
theorem dd_Mo_parse_32 : decode cc_Mo_parse 32 = .ok (.ldc2_w 231, 3) := by decide +kernel
theorem dd_Mo_parse_35 : decode cc_Mo_parse 35 = .ok (.invokevirtual 215, 3) := by decide +kernel
theorem dd_Mo_parse_38 : decode cc_Mo_parse 38 = .ok (.lstore_n 2, 1) := by decide +kernel
theorem dd_Mo_parse_39 : decode cc_Mo_parse 39 = .ok (.aload_n 0, 1) := by decide +kernel
theorem dd_Mo_parse_40 : decode cc_Mo_parse 40 = .ok (.bipush 59, 2) := by decide +kernel
theorem dd_Mo_parse_42 : decode cc_Mo_parse 42 = .ok (.invokevirtual 225, 3) := by decide +kernel
theorem dd_Mo_parse_45 : decode cc_Mo_parse 45 = .ok (.aload_n 0, 1) := by decide +kernel
theorem dd_Mo_parse_46 : decode cc_Mo_parse 46 = .ok (.getfield 7, 3) := by decide +kernel
theorem dd_Mo_parse_49 : decode cc_Mo_parse 49 = .ok (.iconst 4, 1) := by decide +kernel
theorem dd_Mo_parse_50 : decode cc_Mo_parse 50 = .ok (.lload_n 2, 1) := by decide +kernel
theorem dd_Mo_parse_51 : decode cc_Mo_parse 51 = .ok (.l2i, 1) := by decide +kernel
theorem dd_Mo_parse_52 : decode cc_Mo_parse 52 = .ok (.iastore, 1) := by decide +kernel
theorem dd_Mo_parse_53 : decode cc_Mo_parse 53 = .ok (.aload_n 0, 1) := by decide +kernel
theorem dd_Mo_parse_54 : decode cc_Mo_parse 54 = .ok (.getfield 203, 3) := by decide +kernel
theorem dd_Mo_parse_57 : decode cc_Mo_parse 57 = .ok (.ifCond .ne 60, 3) := by decide +kernel
theorem dd_Mo_parse_60 : decode cc_Mo_parse 60 = .ok (.aload_n 0, 1) := by decide +kernel
theorem dd_Mo_parse_61 : decode cc_Mo_parse 61 = .ok (.getfield 197, 3) := by decide +kernel
theorem dd_Mo_parse_64 : decode cc_Mo_parse 64 = .ok (.aload_n 0, 1) := by decide +kernel
theorem dd_Mo_parse_65 : decode cc_Mo_parse 65 = .ok (.getfield 180, 3) := by decide +kernel
theorem dd_Mo_parse_68 : decode cc_Mo_parse 68 = .ok (.if_icmp .ge 49, 3) := by decide +kernel
theorem dd_Mo_parse_71 : decode cc_Mo_parse 71 = .ok (.aload_n 0, 1) := by decide +kernel
theorem dd_Mo_parse_72 : decode cc_Mo_parse 72 = .ok (.invokevirtual 200, 3) := by decide +kernel
theorem dd_Mo_parse_75 : decode cc_Mo_parse 75 = .ok (.bipush 115, 2) := by decide +kernel
theorem dd_Mo_parse_77 : decode cc_Mo_parse 77 = .ok (.if_icmp .eq 12, 3) := by decide +kernel
theorem dd_Mo_parse_80 : decode cc_Mo_parse 80 = .ok (.aload_n 0, 1) := by decide +kernel
theorem dd_Mo_parse_81 : decode cc_Mo_parse 81 = .ok (.invokevirtual 200, 3) := by decide +kernel
theorem dd_Mo_parse_84 : decode cc_Mo_parse 84 = .ok (.bipush 102, 2) := by decide +kernel
theorem dd_Mo_parse_86 : decode cc_Mo_parse 86 = .ok (.if_icmp .ne 24, 3) := by decide +kernel
theorem dd_Mo_parse_89 : decode cc_Mo_parse 89 = .ok (.aload_n 0, 1) := by decide +kernel
theorem dd_Mo_parse_90 : decode cc_Mo_parse 90 = .ok (.aload_n 0, 1) := by decide +kernel
theorem dd_Mo_parse_91 : decode cc_Mo_parse 91 = .ok (.invokevirtual 200, 3) := by decide +kernel
theorem dd_Mo_parse_94 : decode cc_Mo_parse 94 = .ok (.bipush 115, 2) := by decide +kernel
theorem dd_Mo_parse_96 : decode cc_Mo_parse 96 = .ok (.if_icmp .ne 7, 3) := by decide +kernel
theorem dd_Mo_parse_99 : decode cc_Mo_parse 99 = .ok (.iconst 1, 1) := by decide +kernel
theorem dd_Mo_parse_100 : decode cc_Mo_parse 100 = .ok (.goto 4, 3) := by decide +kernel
theorem dd_Mo_parse_103 : decode cc_Mo_parse 103 = .ok (.iconst 0, 1) := by decide +kernel
theorem dd_Mo_parse_104 : decode cc_Mo_parse 104 = .ok (.invokevirtual 233, 3) := by decide +kernel
theorem dd_Mo_parse_107 : decode cc_Mo_parse 107 = .ok (.goto (-54), 3) := by decide +kernel
theorem dd_Mo_parse_110 : decode cc_Mo_parse 110 = .ok (.aload_n 0, 1) := by decide +kernel
theorem dd_Mo_parse_111 : decode cc_Mo_parse 111 = .ok (.invokevirtual 237, 3) := by decide +kernel
theorem dd_Mo_parse_114 : decode cc_Mo_parse 114 = .ok (.goto (-61), 3) := by decide +kernel
theorem dd_Mo_parse_117 : decode cc_Mo_parse 117 = .ok (.aload_n 0, 1) := by decide +kernel
theorem dd_Mo_parse_118 : decode cc_Mo_parse 118 = .ok (.getfield 203, 3) := by decide +kernel
theorem dd_Mo_parse_121 : decode cc_Mo_parse 121 = .ok (.ifCond .eq 8, 3) := by decide +kernel
theorem dd_Mo_parse_124 : decode cc_Mo_parse 124 = .ok (.aload_n 0, 1) := by decide +kernel
theorem dd_Mo_parse_125 : decode cc_Mo_parse 125 = .ok (.getfield 203, 3) := by decide +kernel
theorem dd_Mo_parse_128 : decode cc_Mo_parse 128 = .ok (.ireturn, 1) := by decide +kernel
theorem dd_Mo_parse_129 : decode cc_Mo_parse 129 = .ok (.aload_n 0, 1) := by decide +kernel
theorem dd_Mo_parse_130 : decode cc_Mo_parse 130 = .ok (.iload_n 1, 1) := by decide +kernel
theorem dd_Mo_parse_131 : decode cc_Mo_parse 131 = .ok (.invokevirtual 126, 3) := by decide +kernel
theorem dd_Mo_parse_134 : decode cc_Mo_parse 134 = .ok (.istore 4, 2) := by decide +kernel
theorem dd_Mo_parse_136 : decode cc_Mo_parse 136 = .ok (.aload_n 0, 1) := by decide +kernel
theorem dd_Mo_parse_137 : decode cc_Mo_parse 137 = .ok (.getfield 23, 3) := by decide +kernel
theorem dd_Mo_parse_140 : decode cc_Mo_parse 140 = .ok (.iload_n 1, 1) := by decide +kernel
theorem dd_Mo_parse_141 : decode cc_Mo_parse 141 = .ok (.iaload, 1) := by decide +kernel
theorem dd_Mo_parse_142 : decode cc_Mo_parse 142 = .ok (.ireturn, 1) := by decide +kernel
/-! THE REFERENCE'S PARSING -/
def mp_h (X : List Nat) (k : Nat) : Nat := match X[k]? with
  | none => 0
  | some c => c
theorem mp_h_lt {F : mo_F} {S : Nat → Int32} {X : List Nat} (h : rs_X F S X) (k : Nat) : mp_h X k < 65536 := by
  unfold mp_h
  rcases hc : X[k]? with _ | c
  · decide
  · exact h.2.2.2 c (List.mem_of_getElem? hc)
theorem mp_h_dg (X : List Nat) (k : Nat) : pr_dg X[k]? = (decide (48 ≤ mp_h X k) && decide (mp_h X k ≤ 57)) := by
  unfold mp_h pr_dg
  cases X[k]? <;> rfl
theorem mp_h_v {X : List Nat} {k : Nat} (h : pr_dg X[k]? = true) : pr_v X[k]? = mp_h X k - 48 ∧ 48 ≤ mp_h X k ∧ mp_h X k ≤ 57 := by
  obtain ⟨c, hc, h1, h2⟩ := pr_dg_some h
  unfold mp_h pr_v
  rw [hc]
  exact ⟨rfl, h1, h2⟩
theorem mp_h_eq {X : List Nat} {k c : Nat} (hc : ¬ c = 0) : mp_h X k = c ↔ X[k]? = some c := by
  unfold mp_h
  cases X[k]? with
  | none => exact ⟨fun h => absurd h.symm hc, fun h => by cases h⟩
  | some d => exact ⟨fun h => congrArg some h, fun h => Option.some.inj h⟩
def mp_s (S : Nat → Int32) (R : Int32 ⊕ Nat) : Prop := match R with
  | .inl f => S 16 = f ∧ f ≠ 0
  | .inr k => S 16 = 0 ∧ S 15 = nI k
def mp_n (z : Int64) (S : Nat → Int32) (R : Int32 ⊕ (Nat × Nat)) : Prop := match R with
  | .inl f => S 16 = f ∧ f ≠ 0
  | .inr x => S 16 = 0 ∧ S 15 = nI x.1 ∧ z = lN x.2
def mp_q (z : Int32) (S : Nat → Int32) (R : Int32 ⊕ (Nat × Nat)) : Prop := match R with
  | .inl f => S 16 = f ∧ f ≠ 0
  | .inr x => S 16 = 0 ∧ S 15 = nI x.1 ∧ z = nI x.2
def mp_i (F : mo_F) (L : mo_L) (S : Nat → Int32) (R : Int32 ⊕ (Nat × am_T)) : Prop := match R with
  | .inl f => S 16 = f ∧ f ≠ 0
  | .inr x => S 16 = 0 ∧ S 15 = nI x.1 ∧ mo_is F L 4 x.2
theorem mp_X {F : mo_F} {S S2 : Nat → Int32} {X : List Nat} (h : ∀ k, k ≠ 15 → k ≠ 16 → S2 k = S k) (hX : rs_X F S X) : rs_X F S2 X := rs_X_t rfl (h 14 (by decide) (by decide)) hX
theorem mp_tr {S S1 S2 : Nat → Int32} (h1 : ∀ k, k ≠ 15 → k ≠ 16 → S1 k = S k) (h2 : ∀ k, k ≠ 15 → k ≠ 16 → S2 k = S1 k) : ∀ k, k ≠ 15 → k ≠ 16 → S2 k = S k := fun k a b => (h2 k a b).trans (h1 k a b)
set_option maxRecDepth 100000 in
set_option maxHeartbeats 4000000 in
theorem ct_Mo_here (l : Launch) (D : va_G) (dA : Nat → ClassId) (ad : Nat → Nat) (h : Nat → va_E) (F : mo_F) (L : mo_L) (S : Nat → Int32) {X : List Nat} {k0 : Nat} (hX : rs_X F S X) (h15 : S 15 = nI k0) (hk0 : k0 ≤ 1601) : gx_Ct l D dA yy_Mo_here cc_Mo_here 1 (some .int) 0 0 0 [.ref (ad 43)] (gx_w ad (mo_h dA ad h F L S)) (fun v w => v = some (.int (nI (mp_h X k0))) ∧ w = (gx_w ad (mo_h dA ad h F L S))) := by
  refine gx_of (by decide) (Nat.le_of_ble_eq_true rfl) (fun K C _ _ => ?_)
  have hl16 := hX.2.2.1
  refine gx_aload_n C 0 dd_Mo_here_0 (kk := ?_)
  refine mo_get C fd_Mo_197 dd_Mo_here_1 (kk := ?_)
  refine gx_topi _ h15 ?_
  refine gx_aload_n C 0 dd_Mo_here_4 (kk := ?_)
  refine mo_get C fd_Mo_180 dd_Mo_here_5 (kk := ?_)
  refine gx_topi _ hX.1 ?_
  refine gx_icmp_ge C 23 dd_Mo_here_8 (fun h8 => ?_) (fun h8 => ?_)
  · rw [nI_leI (by omega) (by omega)] at h8
    refine gx_iconst (v := nI 0) C dd_Mo_here_23 (kk := ?_)
    refine gx_iret C dd_Mo_here_24 ?_
    refine ⟨?_, rfl⟩
    unfold mp_h
    rw [List.getElem?_eq_none (by omega)]
  · have hjl : k0 < X.length := by rw [nI_leI (by omega) (by omega)] at h8; omega
    obtain ⟨c0, hc0⟩ : ∃ c, X[k0]? = some c := ⟨_, List.getElem?_eq_getElem hjl⟩
    refine gx_aload_n C 0 dd_Mo_here_11 (kk := ?_)
    refine mo_get C fd_Mo_47 dd_Mo_here_12 (kk := ?_)
    refine gx_aload_n C 0 dd_Mo_here_15 (kk := ?_)
    refine mo_get C fd_Mo_197 dd_Mo_here_16 (kk := ?_)
    refine gx_topi _ h15 ?_
    refine mo_l56 C dd_Mo_here_19 (by omega) (kk := ?_)
    refine gx_topi _ (hX.2.1 k0 c0 hc0) ?_
    refine gx_goto C 24 dd_Mo_here_20 (kk := ?_)
    refine gx_iret C dd_Mo_here_24 ?_
    refine ⟨?_, rfl⟩
    unfold mp_h
    rw [hc0]
set_option maxRecDepth 100000 in
set_option maxHeartbeats 4000000 in
theorem ct_Mo_isDigit (l : Launch) (D : va_G) (dA : Nat → ClassId) (ad : Nat → Nat) (h : Nat → va_E) (F : mo_F) (L : mo_L) (S : Nat → Int32) {X : List Nat} {k0 : Nat} (hX : rs_X F S X) (h15 : S 15 = nI k0) (hk0 : k0 ≤ 1601) : gx_Ct l D dA yy_Mo_isDigit cc_Mo_isDigit 1 (some .boolean) 1 0 0 [.ref (ad 43)] (gx_w ad (mo_h dA ad h F L S)) (fun v w => v = some (.int (nI (pr_dg X[k0]?).toNat)) ∧ w = (gx_w ad (mo_h dA ad h F L S))) := by
  refine gx_of (by decide) (Nat.le_of_ble_eq_true rfl) (fun K C _ _ => ?_)
  have hhl := mp_h_lt hX k0
  have h15a := h15
  refine gx_aload_n C 0 dd_Mo_isDigit_0 (kk := ?_)
  refine gx_callV C (ct_Mo_here (gx_l K) D dA ad h F L S hX h15a hk0) me_Mo_here ml_Mo_200 mn_Mo_here _ (gx_w_at (by decide) mo_h_43) rfl dd_Mo_isDigit_1 (kk := fun v w hq => ?_)
  obtain ⟨rfl, rfl⟩ := hq
  refine gx_bipush (v := nI 48) C dd_Mo_isDigit_4 (kk := ?_)
  refine gx_icmp_lt C 22 dd_Mo_isDigit_6 (fun h6 => ?_) (fun h6 => ?_)
  · refine gx_iconst (v := nI 0) C dd_Mo_isDigit_22 (kk := ?_)
    refine gx_zret C dd_Mo_isDigit_23 (by first | rfl | exact fb_nar) ?_
    rw [nI_ltI (by omega) (by decide)] at h6
    rw [mp_h_dg, decide_eq_false (show ¬ 48 ≤ mp_h X k0 by omega)]
    exact ⟨rfl, rfl⟩
  · refine gx_aload_n C 0 dd_Mo_isDigit_9 (kk := ?_)
    refine gx_callV C (ct_Mo_here (gx_l K) D dA ad h F L S hX h15a hk0) me_Mo_here ml_Mo_200 mn_Mo_here _ (gx_w_at (by decide) mo_h_43) rfl dd_Mo_isDigit_10 (kk := fun v w hq => ?_)
    obtain ⟨rfl, rfl⟩ := hq
    refine gx_bipush (v := nI 57) C dd_Mo_isDigit_13 (kk := ?_)
    refine gx_icmp_gt C 22 dd_Mo_isDigit_15 (fun h15 => ?_) (fun h15 => ?_)
    · refine gx_iconst (v := nI 0) C dd_Mo_isDigit_22 (kk := ?_)
      refine gx_zret C dd_Mo_isDigit_23 (by first | rfl | exact fb_nar) ?_
      rw [nI_ltI (by omega) (by decide)] at h6
      rw [nI_ltI (by decide) (by omega)] at h15
      rw [mp_h_dg, decide_eq_false (show ¬ mp_h X k0 ≤ 57 by omega), Bool.and_false]
      exact ⟨rfl, rfl⟩
    · refine gx_iconst (v := nI 1) C dd_Mo_isDigit_18 (kk := ?_)
      refine gx_goto C 23 dd_Mo_isDigit_19 (kk := ?_)
      refine gx_zret C dd_Mo_isDigit_23 (by first | rfl | exact fb_nar) ?_
      rw [nI_ltI (by omega) (by decide)] at h6
      rw [nI_ltI (by decide) (by omega)] at h15
      rw [mp_h_dg, decide_eq_true (show 48 ≤ mp_h X k0 by omega), decide_eq_true (show mp_h X k0 ≤ 57 by omega)]
      exact ⟨rfl, rfl⟩
set_option maxRecDepth 100000 in
set_option maxHeartbeats 4000000 in
theorem ct_Mo_fail (l : Launch) (D : va_G) (dA : Nat → ClassId) (ad : Nat → Nat) (h : Nat → va_E) (F : mo_F) (L : mo_L) (S : Nat → Int32) (h16 : S 16 = 0) (c : Int32) : gx_Ct l D dA yy_Mo_fail cc_Mo_fail 2 none 0 0 0 [.ref (ad 43), .int c] (gx_w ad (mo_h dA ad h F L S)) (fun v w => v = none ∧ ∃ S2, w = (gx_w ad (mo_h dA ad h F L S2)) ∧ S2 = va_up S 16 c) := by
  refine gx_of (by decide) (Nat.le_of_ble_eq_true rfl) (fun K C _ _ => ?_)
  refine gx_aload_n C 0 dd_Mo_fail_0 (kk := ?_)
  refine gx_aload_n C 0 dd_Mo_fail_1 (kk := ?_)
  refine mo_get C fd_Mo_203 dd_Mo_fail_2 (kk := ?_)
  refine gx_topi _ h16 ?_
  refine gx_if_ne C 12 dd_Mo_fail_5 (fun h5 => absurd rfl h5) (fun h5 => ?_)
  refine gx_iload_n C 1 dd_Mo_fail_8 (kk := ?_)
  refine gx_goto C 16 dd_Mo_fail_9 (kk := ?_)
  refine mo_put_16 C fw_Mo_203 dd_Mo_fail_16 (kk := fun S16 hS16 => ?_)
  refine gx_vret C dd_Mo_fail_19 ?_
  exact ⟨rfl, S16, rfl, hS16⟩
set_option maxRecDepth 100000 in
set_option maxHeartbeats 4000000 in
theorem ct_Mo_take (l : Launch) (D : va_G) (dA : Nat → ClassId) (ad : Nat → Nat) (h : Nat → va_E) (F : mo_F) (L : mo_L) (S : Nat → Int32) {X : List Nat} {k0 : Nat} (hX : rs_X F S X) (h15 : S 15 = nI k0) (hk0 : k0 ≤ 1601) (h16 : S 16 = 0) {c : Nat} (hc0 : ¬ c = 0) (hc1 : c < 65536) : gx_Ct l D dA yy_Mo_take cc_Mo_take 2 none 1 0 0 [.ref (ad 43), .int (nI c)] (gx_w ad (mo_h dA ad h F L S)) (fun v w => v = none ∧ ∃ S2, w = (gx_w ad (mo_h dA ad h F L S2)) ∧ (∀ k, k ≠ 15 → k ≠ 16 → S2 k = S k) ∧ mp_s S2 (pr_sgn X c k0)) := by
  refine gx_of (by decide) (Nat.le_of_ble_eq_true rfl) (fun K C _ _ => ?_)
  have hhl := mp_h_lt hX k0
  refine gx_aload_n C 0 dd_Mo_take_0 (kk := ?_)
  refine gx_callV C (ct_Mo_here (gx_l K) D dA ad h F L S hX h15 hk0) me_Mo_here ml_Mo_200 mn_Mo_here _ (gx_w_at (by decide) mo_h_43) rfl dd_Mo_take_1 (kk := fun v w hq => ?_)
  obtain ⟨rfl, rfl⟩ := hq
  by_cases hc : mp_h X k0 = c
  · have hsg : pr_sgn X c k0 = .inr (k0 + 1) := if_pos ((mp_h_eq hc0).mp hc)
    refine gx_iload_n C 1 dd_Mo_take_4 (kk := ?_)
    refine gx_icmp_eq C 14 dd_Mo_take_5 (fun h5 => ?_) (fun h5 => absurd (congrArg nI hc) h5)
    refine gx_aload_n C 0 dd_Mo_take_14 (kk := ?_)
    refine gx_dup C dd_Mo_take_15 (kk := ?_)
    refine mo_get C fd_Mo_197 dd_Mo_take_16 (kk := ?_)
    refine gx_topi (nI k0) (by exact h15) ?_
    refine gx_iconst (v := nI 1) C dd_Mo_take_19 (kk := ?_)
    refine gx_iadd C dd_Mo_take_20 (kk := ?_)
    refine gx_topi _ (nI_add _ _) ?_
    refine mo_put_15 C fw_Mo_197 dd_Mo_take_21 (kk := fun S21 hS21 => ?_)
    refine gx_vret C dd_Mo_take_24 ?_
    refine ⟨rfl, S21, rfl, fun k a b => by rw [hS21, gm_un a], ?_⟩
    rw [hsg]
    exact ⟨by rw [hS21, gm_un (by decide)]; exact h16, by rw [hS21, gm_us]⟩
  · have hsg : pr_sgn X c k0 = .inl (-4) := if_neg (fun e => hc ((mp_h_eq hc0).mpr e))
    refine gx_iload_n C 1 dd_Mo_take_4 (kk := ?_)
    refine gx_icmp_eq C 14 dd_Mo_take_5 (fun h5 => absurd ((nI_eq (by omega) (by omega)).mp h5) hc) (fun h5 => ?_)
    refine gx_aload_n C 0 dd_Mo_take_8 (kk := ?_)
    refine gx_bipush (v := -4) C dd_Mo_take_9 (kk := ?_)
    refine gx_callV C (ct_Mo_fail (gx_l K) D dA ad h F L S h16 (-4)) me_Mo_fail ml_Mo_206 mn_Mo_fail _ (gx_w_at (by decide) mo_h_43) rfl dd_Mo_take_11 (kk := fun v w hq => ?_)
    obtain ⟨rfl, Sf, rfl, hSf⟩ := hq
    refine gx_aload_n C 0 dd_Mo_take_14 (kk := ?_)
    refine gx_dup C dd_Mo_take_15 (kk := ?_)
    refine mo_get C fd_Mo_197 dd_Mo_take_16 (kk := ?_)
    refine gx_topi (nI k0) (by rw [hSf, gm_un (by decide)]; exact h15) ?_
    refine gx_iconst (v := nI 1) C dd_Mo_take_19 (kk := ?_)
    refine gx_iadd C dd_Mo_take_20 (kk := ?_)
    refine gx_topi _ (nI_add _ _) ?_
    refine mo_put_15 C fw_Mo_197 dd_Mo_take_21 (kk := fun S21 hS21 => ?_)
    refine gx_vret C dd_Mo_take_24 ?_
    refine ⟨rfl, S21, rfl, fun k a b => by rw [hS21, gm_un a, hSf, gm_un b], ?_⟩
    rw [hsg]
    exact ⟨by rw [hS21, gm_un (by decide), hSf, gm_us], by decide⟩
set_option maxRecDepth 100000 in
set_option maxHeartbeats 4000000 in
theorem ct_Mo_takeIf (l : Launch) (D : va_G) (dA : Nat → ClassId) (ad : Nat → Nat) (h : Nat → va_E) (F : mo_F) (L : mo_L) (S : Nat → Int32) {X : List Nat} {k0 : Nat} (hX : rs_X F S X) (h15 : S 15 = nI k0) (hk0 : k0 ≤ 1601) (h16 : S 16 = 0) {c : Nat} (hc0 : ¬ c = 0) (hc1 : c < 65536) : gx_Ct l D dA yy_Mo_takeIf cc_Mo_takeIf 2 none 2 0 0 [.ref (ad 43), .int (nI c)] (gx_w ad (mo_h dA ad h F L S)) (fun v w => v = none ∧ ∃ S2, w = (gx_w ad (mo_h dA ad h F L S2)) ∧ (∀ k, k ≠ 15 → k ≠ 16 → S2 k = S k) ∧ mp_s S2 (pr_sgn X c k0)) := by
  refine gx_of (by decide) (Nat.le_of_ble_eq_true rfl) (fun K C _ _ => ?_)
  refine gx_aload_n C 0 dd_Mo_takeIf_0 (kk := ?_)
  refine mo_get C fd_Mo_203 dd_Mo_takeIf_1 (kk := ?_)
  refine gx_topi _ h16 ?_
  refine gx_if_ne C 12 dd_Mo_takeIf_4 (fun h4 => absurd rfl h4) (fun h4 => ?_)
  refine gx_aload_n C 0 dd_Mo_takeIf_7 (kk := ?_)
  refine gx_iload_n C 1 dd_Mo_takeIf_8 (kk := ?_)
  refine gx_callV C (ct_Mo_take (gx_l K) D dA ad h F L S hX h15 hk0 h16 hc0 hc1) me_Mo_take ml_Mo_219 mn_Mo_take _ (gx_w_at (by decide) mo_h_43) rfl dd_Mo_takeIf_9 (kk := fun v w hq => ?_)
  obtain ⟨rfl, S2, rfl, hfr, hmp⟩ := hq
  refine gx_vret C dd_Mo_takeIf_12 ?_
  exact ⟨rfl, S2, rfl, hfr, hmp⟩
set_option maxRecDepth 100000 in
set_option maxHeartbeats 4000000 in
theorem ct_Mo_takeIfF (l : Launch) (D : va_G) (dA : Nat → ClassId) (ad : Nat → Nat) (h : Nat → va_E) (F : mo_F) (L : mo_L) (S : Nat → Int32) (hne : ¬ S 16 = 0) (c : Int32) : gx_Ct l D dA yy_Mo_takeIf cc_Mo_takeIf 2 none 2 0 0 [.ref (ad 43), .int c] (gx_w ad (mo_h dA ad h F L S)) (fun v w => v = none ∧ w = (gx_w ad (mo_h dA ad h F L S))) := by
  refine gx_of (by decide) (Nat.le_of_ble_eq_true rfl) (fun K C _ _ => ?_)
  refine gx_aload_n C 0 dd_Mo_takeIf_0 (kk := ?_)
  refine mo_get C fd_Mo_203 dd_Mo_takeIf_1 (kk := ?_)
  refine gx_if_ne C 12 dd_Mo_takeIf_4 (fun h4 => ?_) (fun h4 => absurd h4 hne)
  refine gx_vret C dd_Mo_takeIf_12 ?_
  exact ⟨rfl, rfl⟩
set_option maxRecDepth 100000 in
set_option maxHeartbeats 4000000 in
theorem ct_Mo_takeNumberF (l : Launch) (D : va_G) (dA : Nat → ClassId) (ad : Nat → Nat) (h : Nat → va_E) (F : mo_F) (L : mo_L) (S : Nat → Int32) (hne : ¬ S 16 = 0) (c : Int64) : gx_Ct l D dA yy_Mo_takeNumber cc_Mo_takeNumber 6 (some .long) 2 0 0 [.ref (ad 43), .long c] (gx_w ad (mo_h dA ad h F L S)) (fun v w => v = some (.long (lN 0)) ∧ w = (gx_w ad (mo_h dA ad h F L S))) := by
  refine gx_of (by decide) (Nat.le_of_ble_eq_true rfl) (fun K C _ _ => ?_)
  refine gx_aload_n C 0 dd_Mo_takeNumber_0 (kk := ?_)
  refine mo_get C fd_Mo_203 dd_Mo_takeNumber_1 (kk := ?_)
  refine gx_if_eq C 9 dd_Mo_takeNumber_4 (fun h4 => absurd h4 hne) (fun h4 => ?_)
  refine gx_lconst (v := lN 0) C dd_Mo_takeNumber_7 (kk := ?_)
  refine gx_lret C dd_Mo_takeNumber_8 ?_
  exact ⟨rfl, rfl⟩
set_option maxRecDepth 100000 in
set_option maxHeartbeats 4000000 in
theorem ct_Mo_takeNumber (l : Launch) (D : va_G) (dA : Nat → ClassId) (ad : Nat → Nat) (h : Nat → va_E) (F : mo_F) (L : mo_L) (S : Nat → Int32) {X : List Nat} {k0 : Nat} (hX : rs_X F S X) (h15 : S 15 = nI k0) (hk0 : k0 ≤ 1601) (h16 : S 16 = 0) {lim : Nat} {most : Int64} (hm : ∀ v, v < 10000000000 → (most < lN v ↔ lim ≤ v)) : gx_Ct l D dA yy_Mo_takeNumber cc_Mo_takeNumber 6 (some .long) 2 0 0 [.ref (ad 43), .long most] (gx_w ad (mo_h dA ad h F L S)) (fun v w => ∃ S2 z, v = some (.long z) ∧ w = (gx_w ad (mo_h dA ad h F L S2)) ∧ (∀ k, k ≠ 15 → k ≠ 16 → S2 k = S k) ∧ mp_n z S2 (pr_num X lim k0)) := by
  refine gx_of (by decide) (Nat.le_of_ble_eq_true rfl) (fun K C _ _ => ?_)
  have hl16 := hX.2.2.1
  have fin : ∀ kk vv S1, (∀ k, k ≠ 15 → k ≠ 16 → S1 k = S k) → S1 15 = nI kk → kk ≤ 1601 → S1 16 = 0 → vv < 10000000000 → pr_num X lim k0 = pr_fin X lim (kk, vv) → gx_G K D 6 0 0 98 [(3, .long (lN vv)), (0, .ref (ad 43)), (1, .long most)] [] (gx_w ad (mo_h dA ad h F L S1)) (gx_Z K D dA 0 0 (fun v w => ∃ S2 z, v = some (.long z) ∧ w = (gx_w ad (mo_h dA ad h F L S2)) ∧ (∀ k, k ≠ 15 → k ≠ 16 → S2 k = S k) ∧ mp_n z S2 (pr_num X lim k0))) := by
    intro kk vv S1 hfr h15 hkk h16 hvv hpn
    refine gx_aload_n C 1 dd_Mo_takeNumber_98 (kk := ?_)
    refine gx_callV C (ct_Mo_isDigit (gx_l K) D dA ad h F L S1 (mp_X hfr hX) h15 (by omega)) me_Mo_isDigit ml_Mo_209 mn_Mo_isDigit _ (gx_w_at (by decide) mo_h_43) rfl dd_Mo_takeNumber_99 (kk := fun v w hq => ?_)
    obtain ⟨rfl, rfl⟩ := hq
    rcases hdg : pr_dg X[kk]? with _ | _
    · refine gx_if_eq C 114 dd_Mo_takeNumber_102 (fun h102 => ?_) (fun h102 => absurd rfl h102)
      refine gx_lload_n C 0 dd_Mo_takeNumber_114 (kk := ?_)
      refine gx_lload_n C 2 dd_Mo_takeNumber_115 (kk := ?_)
      refine gx_lcmp C dd_Mo_takeNumber_116 (kk := ?_)
      refine gx_if_le C 126 dd_Mo_takeNumber_117 (fun h117 => ?_) (fun h117 => ?_)
      · refine gx_lload_n C 0 dd_Mo_takeNumber_126 (kk := ?_)
        refine gx_lret C dd_Mo_takeNumber_127 ?_
        have hpf : pr_fin X lim (kk, vv) = .inr (kk, vv) := by
          unfold pr_fin
          rw [if_neg (by rw [hdg]; decide), if_pos ?_]
          rw [lc_le, ← Int64.not_lt, hm vv hvv] at h117
          show vv < lim
          omega
        refine ⟨S1, _, rfl, rfl, hfr, ?_⟩
        rw [hpn, hpf]
        exact ⟨h16, h15, rfl⟩
      · refine gx_aload_n C 1 dd_Mo_takeNumber_120 (kk := ?_)
        refine gx_bipush (v := -5) C dd_Mo_takeNumber_121 (kk := ?_)
        refine gx_callV C (ct_Mo_fail (gx_l K) D dA ad h F L S1 h16 (-5)) me_Mo_fail ml_Mo_206 mn_Mo_fail _ (gx_w_at (by decide) mo_h_43) rfl dd_Mo_takeNumber_123 (kk := fun v w hq => ?_)
        obtain ⟨rfl, Sg, rfl, hSg⟩ := hq
        refine gx_lload_n C 0 dd_Mo_takeNumber_126 (kk := ?_)
        refine gx_lret C dd_Mo_takeNumber_127 ?_
        have hpf : pr_fin X lim (kk, vv) = .inl (-5) := by
          unfold pr_fin
          rw [if_neg (by rw [hdg]; decide), if_neg ?_]
          rw [lc_le, ← Int64.not_lt, Classical.not_not, hm vv hvv] at h117
          show ¬ vv < lim
          omega
        refine ⟨Sg, _, rfl, rfl, fun k a b => by rw [hSg, gm_un b]; exact hfr k a b, ?_⟩
        rw [hpn, hpf]
        exact ⟨by rw [hSg, gm_us], by decide⟩
    · have hpf : pr_fin X lim (kk, vv) = .inl (-4) := if_pos hdg
      refine gx_if_eq C 114 dd_Mo_takeNumber_102 (fun h102 => absurd (show true = false from fb_0.mp h102) (by decide)) (fun h102 => ?_)
      refine gx_aload_n C 1 dd_Mo_takeNumber_105 (kk := ?_)
      refine gx_bipush (v := -4) C dd_Mo_takeNumber_106 (kk := ?_)
      refine gx_callV C (ct_Mo_fail (gx_l K) D dA ad h F L S1 h16 (-4)) me_Mo_fail ml_Mo_206 mn_Mo_fail _ (gx_w_at (by decide) mo_h_43) rfl dd_Mo_takeNumber_108 (kk := fun v w hq => ?_)
      obtain ⟨rfl, Sf, rfl, hSf⟩ := hq
      refine gx_goto C 126 dd_Mo_takeNumber_111 (kk := ?_)
      refine gx_lload_n C 0 dd_Mo_takeNumber_126 (kk := ?_)
      refine gx_lret C dd_Mo_takeNumber_127 ?_
      refine ⟨Sf, _, rfl, rfl, fun k a b => by rw [hSf, gm_un b]; exact hfr k a b, ?_⟩
      rw [hpn, hpf]
      exact ⟨by rw [hSf, gm_us], by decide⟩
  have more : ∀ m j kk vv S1, j + m = 10 → (∀ k, k ≠ 15 → k ≠ 16 → S1 k = S k) → S1 15 = nI kk → kk ≤ 1601 → S1 16 = 0 → 0 < vv → vv < 10 ^ j → pr_num X lim k0 = pr_fin X lim (pr_more X m kk vv) → gx_G K D 6 0 0 46 [(5, .int (nI j)), (3, .long (lN vv)), (0, .ref (ad 43)), (1, .long most)] [] (gx_w ad (mo_h dA ad h F L S1)) (gx_Z K D dA 0 0 (fun v w => ∃ S2 z, v = some (.long z) ∧ w = (gx_w ad (mo_h dA ad h F L S2)) ∧ (∀ k, k ≠ 15 → k ≠ 16 → S2 k = S k) ∧ mp_n z S2 (pr_num X lim k0))) := by
    intro m
    induction m with
    | zero =>
      intro j kk vv S1 hj hfr h15 hkk h16 hv0 hvv hpn
      refine gx_iload C 0 dd_Mo_takeNumber_46 (kk := ?_)
      refine gx_bipush (v := nI 10) C dd_Mo_takeNumber_48 (kk := ?_)
      refine gx_icmp_ge C 98 dd_Mo_takeNumber_50 (fun h50 => ?_) (fun h50 => absurd (nI_le (a := 10) (b := j) (by omega) (by omega)) h50)
      refine gx_loc [1, 2, 3] ?_
      exact fin kk vv S1 hfr h15 hkk h16 (Nat.lt_of_lt_of_le hvv (Nat.le_trans (Nat.pow_le_pow_right (by decide) (show j ≤ 10 by omega)) (by decide))) (by rw [hpn, pr_more])
    | succ m ih =>
      intro j kk vv S1 hj hfr h15 hkk h16 hv0 hvv hpn
      have hvv2 : vv < 10000000000 := Nat.lt_of_lt_of_le hvv (Nat.le_trans (Nat.pow_le_pow_right (by decide) (show j ≤ 10 by omega)) (by decide))
      have hhl := mp_h_lt hX kk
      refine gx_iload C 0 dd_Mo_takeNumber_46 (kk := ?_)
      refine gx_bipush (v := nI 10) C dd_Mo_takeNumber_48 (kk := ?_)
      refine gx_icmp_ge C 98 dd_Mo_takeNumber_50 (fun h50 => absurd h50 (nI_ge (by omega) (by omega))) (fun h50 => ?_)
      refine gx_lload_n C 1 dd_Mo_takeNumber_53 (kk := ?_)
      refine gx_lconst (v := lN 0) C dd_Mo_takeNumber_54 (kk := ?_)
      refine gx_lcmp C dd_Mo_takeNumber_55 (kk := ?_)
      refine gx_if_le C 98 dd_Mo_takeNumber_56 (fun h56 => absurd (lc_le.mp h56) (by rw [show lN vv ≤ lN 0 ↔ vv ≤ 0 from pk_lLE (by omega) (by decide)]; omega)) (fun h56 => ?_)
      refine gx_aload_n C 2 dd_Mo_takeNumber_59 (kk := ?_)
      refine gx_callV C (ct_Mo_isDigit (gx_l K) D dA ad h F L S1 (mp_X hfr hX) h15 (by omega)) me_Mo_isDigit ml_Mo_209 mn_Mo_isDigit _ (gx_w_at (by decide) mo_h_43) rfl dd_Mo_takeNumber_60 (kk := fun v w hq => ?_)
      obtain ⟨rfl, rfl⟩ := hq
      rcases hdg : pr_dg X[kk]? with _ | _
      · refine gx_if_eq C 98 dd_Mo_takeNumber_63 (fun h63 => ?_) (fun h63 => absurd rfl h63)
        refine gx_loc [1, 2, 3] ?_
        exact fin kk vv S1 hfr h15 hkk h16 (Nat.lt_of_lt_of_le hvv (Nat.le_trans (Nat.pow_le_pow_right (by decide) (show j ≤ 10 by omega)) (by decide))) (by rw [hpn, pr_more_n hdg])
      · obtain ⟨hpv, hd1, hd2⟩ := mp_h_v hdg
        have hkl := pr_dg_at hdg
        refine gx_if_eq C 98 dd_Mo_takeNumber_63 (fun h63 => absurd (show true = false from fb_0.mp h63) (by decide)) (fun h63 => ?_)
        refine gx_ldc2 C dd_Mo_takeNumber_66 kc_Mo_183 (kk := ?_)
        refine gx_lload_n C 1 dd_Mo_takeNumber_69 (kk := ?_)
        refine gx_lmul C dd_Mo_takeNumber_70 (kk := ?_)
        refine gx_topl (lN (10 * vv)) (by rw [show (10 : Int64) = lN 10 from rfl, lN_mul]) ?_
        refine gx_aload_n C 2 dd_Mo_takeNumber_71 (kk := ?_)
        refine gx_callV C (ct_Mo_here (gx_l K) D dA ad h F L S1 (mp_X hfr hX) h15 (by omega)) me_Mo_here ml_Mo_200 mn_Mo_here _ (gx_w_at (by decide) mo_h_43) rfl dd_Mo_takeNumber_72 (kk := fun v w hq => ?_)
        obtain ⟨rfl, rfl⟩ := hq
        refine gx_i2l C dd_Mo_takeNumber_75 (w := lN (mp_h X kk)) (hv := nI_l (by omega)) (kk := ?_)
        refine gx_ladd C dd_Mo_takeNumber_76 (kk := ?_)
        refine gx_topl _ (lN_add _ _) ?_
        refine gx_ldc2 C dd_Mo_takeNumber_77 kc_Mo_213 (kk := ?_)
        refine gx_lsub C dd_Mo_takeNumber_80 (kk := ?_)
        refine gx_topl (lN (10 * vv + pr_v X[kk]?)) (by rw [show (48 : Int64) = lN 48 from rfl, lN_sub (by omega), hpv, show 10 * vv + mp_h X kk - 48 = 10 * vv + (mp_h X kk - 48) by omega]) ?_
        refine gx_lstore_n C _ dd_Mo_takeNumber_81 (kk := ?_)
        refine gx_aload_n C 2 dd_Mo_takeNumber_82 (kk := ?_)
        refine gx_dup C dd_Mo_takeNumber_83 (kk := ?_)
        refine mo_get C fd_Mo_197 dd_Mo_takeNumber_84 (kk := ?_)
        refine gx_topi _ h15 ?_
        refine gx_iconst (v := nI 1) C dd_Mo_takeNumber_87 (kk := ?_)
        refine gx_iadd C dd_Mo_takeNumber_88 (kk := ?_)
        refine gx_topi _ (nI_add _ _) ?_
        refine mo_put_15 C fw_Mo_197 dd_Mo_takeNumber_89 (kk := fun S89 hS89 => ?_)
        refine gx_iinc C 1 (nI (j + 1)) _ dd_Mo_takeNumber_92 (nI_1 j) (kk := ?_)
        refine gx_goto C 46 dd_Mo_takeNumber_95 (kk := ?_)
        exact ih (j + 1) (kk + 1) (10 * vv + pr_v X[kk]?) S89 (by omega) (fun k a b => by rw [hS89, gm_un a]; exact hfr k a b) (by rw [hS89, gm_us]) (by omega) (by rw [hS89, gm_un (by decide)]; exact h16) (by omega) (by rw [Nat.pow_succ]; omega) (by rw [hpn, pr_more_s hdg])
  refine gx_aload_n C 0 dd_Mo_takeNumber_0 (kk := ?_)
  refine mo_get C fd_Mo_203 dd_Mo_takeNumber_1 (kk := ?_)
  refine gx_topi _ h16 ?_
  refine gx_if_eq C 9 dd_Mo_takeNumber_4 (fun h4 => ?_) (fun h4 => absurd rfl h4)
  refine gx_aload_n C 0 dd_Mo_takeNumber_9 (kk := ?_)
  refine gx_callV C (ct_Mo_isDigit (gx_l K) D dA ad h F L S hX h15 hk0) me_Mo_isDigit ml_Mo_209 mn_Mo_isDigit _ (gx_w_at (by decide) mo_h_43) rfl dd_Mo_takeNumber_10 (kk := fun v w hq => ?_)
  obtain ⟨rfl, rfl⟩ := hq
  rcases hdg0 : pr_dg X[k0]? with _ | _
  · have hpn : pr_num X lim k0 = .inl (-4) := if_neg (by rw [hdg0]; decide)
    refine gx_if_ne C 24 dd_Mo_takeNumber_13 (fun h13 => absurd rfl h13) (fun h13 => ?_)
    refine gx_aload_n C 0 dd_Mo_takeNumber_16 (kk := ?_)
    refine gx_bipush (v := -4) C dd_Mo_takeNumber_17 (kk := ?_)
    refine gx_callV C (ct_Mo_fail (gx_l K) D dA ad h F L S h16 (-4)) me_Mo_fail ml_Mo_206 mn_Mo_fail _ (gx_w_at (by decide) mo_h_43) rfl dd_Mo_takeNumber_19 (kk := fun v w hq => ?_)
    obtain ⟨rfl, Sf, rfl, hSf⟩ := hq
    refine gx_lconst (v := lN 0) C dd_Mo_takeNumber_22 (kk := ?_)
    refine gx_lret C dd_Mo_takeNumber_23 ?_
    refine ⟨Sf, _, rfl, rfl, fun k a b => by rw [hSf, gm_un b], ?_⟩
    rw [hpn]
    exact ⟨by rw [hSf, gm_us], by decide⟩
  · obtain ⟨hpv, hd1, hd2⟩ := mp_h_v hdg0
    have hkl := pr_dg_at hdg0
    have hpn : pr_num X lim k0 = pr_fin X lim (if pr_v X[k0]? = 0 then (k0 + 1, 0) else pr_more X 9 (k0 + 1) (pr_v X[k0]?)) := if_pos hdg0
    refine gx_if_ne C 24 dd_Mo_takeNumber_13 (fun h13 => ?_) (fun h13 => absurd (show true = false from fb_0.mp h13) (by decide))
    refine gx_aload_n C 0 dd_Mo_takeNumber_24 (kk := ?_)
    refine gx_callV C (ct_Mo_here (gx_l K) D dA ad h F L S hX h15 hk0) me_Mo_here ml_Mo_200 mn_Mo_here _ (gx_w_at (by decide) mo_h_43) rfl dd_Mo_takeNumber_25 (kk := fun v w hq => ?_)
    obtain ⟨rfl, rfl⟩ := hq
    refine gx_bipush (v := nI 48) C dd_Mo_takeNumber_28 (kk := ?_)
    refine gx_isub C dd_Mo_takeNumber_30 (kk := ?_)
    refine gx_topi (nI (pr_v X[k0]?)) (by rw [pk_sub (by omega), hpv]) ?_
    refine gx_i2l C dd_Mo_takeNumber_31 (w := lN (pr_v X[k0]?)) (hv := nI_l (by omega)) (kk := ?_)
    refine gx_lstore_n C _ dd_Mo_takeNumber_32 (kk := ?_)
    refine gx_aload_n C 1 dd_Mo_takeNumber_33 (kk := ?_)
    refine gx_dup C dd_Mo_takeNumber_34 (kk := ?_)
    refine mo_get C fd_Mo_197 dd_Mo_takeNumber_35 (kk := ?_)
    refine gx_topi _ h15 ?_
    refine gx_iconst (v := nI 1) C dd_Mo_takeNumber_38 (kk := ?_)
    refine gx_iadd C dd_Mo_takeNumber_39 (kk := ?_)
    refine gx_topi _ (nI_add _ _) ?_
    refine mo_put_15 C fw_Mo_197 dd_Mo_takeNumber_40 (kk := fun S40 hS40 => ?_)
    refine gx_iconst (v := nI 1) C dd_Mo_takeNumber_43 (kk := ?_)
    refine gx_istore C _ dd_Mo_takeNumber_44 (kk := ?_)
    have hfr2 : ∀ k, k ≠ 15 → k ≠ 16 → S40 k = S k := fun k a b => by rw [hS40, gm_un a]
    by_cases hz : pr_v X[k0]? = 0
    · rw [if_pos hz] at hpn
      rw [hz]
      refine gx_iload C 0 dd_Mo_takeNumber_46 (kk := ?_)
      refine gx_bipush (v := nI 10) C dd_Mo_takeNumber_48 (kk := ?_)
      refine gx_icmp_ge C 98 dd_Mo_takeNumber_50 (fun h50 => absurd h50 (by decide)) (fun h50 => ?_)
      refine gx_lload_n C 1 dd_Mo_takeNumber_53 (kk := ?_)
      refine gx_lconst (v := lN 0) C dd_Mo_takeNumber_54 (kk := ?_)
      refine gx_lcmp C dd_Mo_takeNumber_55 (kk := ?_)
      refine gx_if_le C 98 dd_Mo_takeNumber_56 (fun h56 => ?_) (fun h56 => absurd (by decide) h56)
      refine gx_loc [1, 2, 3] ?_
      exact fin (k0 + 1) 0 S40 hfr2 (by rw [hS40, gm_us]) (by omega) (by rw [hS40, gm_un (by decide)]; exact h16) (by decide) hpn
    · rw [if_neg hz] at hpn
      exact more 9 1 (k0 + 1) (pr_v X[k0]?) S40 rfl hfr2 (by rw [hS40, gm_us]) (by omega) (by rw [hS40, gm_un (by decide)]; exact h16) (by omega) (by omega) hpn
set_option maxRecDepth 100000 in
set_option maxHeartbeats 4000000 in
theorem ct_Mo_takeState (l : Launch) (D : va_G) (dA : Nat → ClassId) (ad : Nat → Nat) (h : Nat → va_E) (F : mo_F) (L : mo_L) (S : Nat → Int32) {X : List Nat} {k0 : Nat} (hX : rs_X F S X) (h15 : S 15 = nI k0) (hk0 : k0 ≤ 1601) (h16 : S 16 = 0) {n : Nat} (h44 : F 44 4 = nI n) (hn : n ≤ 16) : gx_Ct l D dA yy_Mo_takeState cc_Mo_takeState 1 (some .int) 3 0 0 [.ref (ad 43)] (gx_w ad (mo_h dA ad h F L S)) (fun v w => ∃ S2 z, v = some (.int z) ∧ w = (gx_w ad (mo_h dA ad h F L S2)) ∧ (∀ k, k ≠ 15 → k ≠ 16 → S2 k = S k) ∧ mp_q z S2 (pr_num X n k0)) := by
  refine gx_of (by decide) (Nat.le_of_ble_eq_true rfl) (fun K C _ _ => ?_)
  refine gx_aload_n C 0 dd_Mo_takeState_0 (kk := ?_)
  refine gx_aload_n C 0 dd_Mo_takeState_1 (kk := ?_)
  refine mo_get C fd_Mo_7 dd_Mo_takeState_2 (kk := ?_)
  refine gx_iconst (v := nI 4) C dd_Mo_takeState_5 (kk := ?_)
  refine mo_l44 C dd_Mo_takeState_6 (by omega) (kk := ?_)
  refine gx_topi _ h44 ?_
  refine gx_iconst (v := nI 1) C dd_Mo_takeState_7 (kk := ?_)
  refine gx_isub C dd_Mo_takeState_8 (kk := ?_)
  refine gx_i2l C dd_Mo_takeState_9 (w := (nI n - nI 1).toInt64) (hv := rfl) (kk := ?_)
  refine gx_callV C (ct_Mo_takeNumber (gx_l K) D dA ad h F L S hX h15 hk0 h16 (lim := n) (most := (nI n - nI 1).toInt64) (pr_lim hn)) me_Mo_takeNumber ml_Mo_215 mn_Mo_takeNumber _ (gx_w_at (by decide) mo_h_43) rfl dd_Mo_takeState_10 (kk := fun v w hq => ?_)
  obtain ⟨S2, z, rfl, rfl, hfr, hmp⟩ := hq
  refine gx_l2i C dd_Mo_takeState_13 (w := z.toInt32) (hv := rfl) (kk := ?_)
  refine gx_iret C dd_Mo_takeState_14 ?_
  refine ⟨S2, _, rfl, rfl, hfr, ?_⟩
  rcases hpn : pr_num X n k0 with f | x
  · rw [hpn] at hmp
    exact hmp
  · rw [hpn] at hmp
    exact ⟨hmp.1, hmp.2.1, by rw [hmp.2.2]; exact lN_i _⟩
set_option maxRecDepth 100000 in
set_option maxHeartbeats 4000000 in
theorem ct_Mo_takeStateF (l : Launch) (D : va_G) (dA : Nat → ClassId) (ad : Nat → Nat) (h : Nat → va_E) (F : mo_F) (L : mo_L) (S : Nat → Int32) (hne : ¬ S 16 = 0) : gx_Ct l D dA yy_Mo_takeState cc_Mo_takeState 1 (some .int) 3 0 0 [.ref (ad 43)] (gx_w ad (mo_h dA ad h F L S)) (fun v w => v = some (.int (nI 0)) ∧ w = (gx_w ad (mo_h dA ad h F L S))) := by
  refine gx_of (by decide) (Nat.le_of_ble_eq_true rfl) (fun K C _ _ => ?_)
  refine gx_aload_n C 0 dd_Mo_takeState_0 (kk := ?_)
  refine gx_aload_n C 0 dd_Mo_takeState_1 (kk := ?_)
  refine mo_get C fd_Mo_7 dd_Mo_takeState_2 (kk := ?_)
  refine gx_iconst (v := nI 4) C dd_Mo_takeState_5 (kk := ?_)
  refine mo_l44 C dd_Mo_takeState_6 (by omega) (kk := ?_)
  refine gx_iconst (v := nI 1) C dd_Mo_takeState_7 (kk := ?_)
  refine gx_isub C dd_Mo_takeState_8 (kk := ?_)
  refine gx_i2l C dd_Mo_takeState_9 (w := (F 44 4 - nI 1).toInt64) (hv := rfl) (kk := ?_)
  refine gx_callV C (ct_Mo_takeNumberF (gx_l K) D dA ad h F L S hne _) me_Mo_takeNumber ml_Mo_215 mn_Mo_takeNumber _ (gx_w_at (by decide) mo_h_43) rfl dd_Mo_takeState_10 (kk := fun v w hq => ?_)
  obtain ⟨rfl, rfl⟩ := hq
  refine gx_l2i C dd_Mo_takeState_13 (w := nI 0) (hv := lN_i _) (kk := ?_)
  refine gx_iret C dd_Mo_takeState_14 ?_
  exact ⟨rfl, rfl⟩
set_option maxRecDepth 100000 in
set_option maxHeartbeats 4000000 in
theorem ct_Mo_takeLabelF (l : Launch) (D : va_G) (dA : Nat → ClassId) (ad : Nat → Nat) (h : Nat → va_E) (F : mo_F) (L : mo_L) (S : Nat → Int32) (hne : ¬ S 16 = 0) : gx_Ct l D dA yy_Mo_takeLabel cc_Mo_takeLabel 2 (some .int) 2 0 0 [.ref (ad 43)] (gx_w ad (mo_h dA ad h F L S)) (fun v w => v = some (.int (nI 0)) ∧ w = (gx_w ad (mo_h dA ad h F L S))) := by
  refine gx_of (by decide) (Nat.le_of_ble_eq_true rfl) (fun K C _ _ => ?_)
  refine gx_aload_n C 0 dd_Mo_takeLabel_0 (kk := ?_)
  refine mo_get C fd_Mo_203 dd_Mo_takeLabel_1 (kk := ?_)
  refine gx_if_eq C 9 dd_Mo_takeLabel_4 (fun h4 => absurd h4 hne) (fun h4 => ?_)
  refine gx_iconst (v := nI 0) C dd_Mo_takeLabel_7 (kk := ?_)
  refine gx_iret C dd_Mo_takeLabel_8 ?_
  exact ⟨rfl, rfl⟩
set_option maxRecDepth 100000 in
set_option maxHeartbeats 4000000 in
theorem ct_Mo_takeLabel (l : Launch) (D : va_G) (dA : Nat → ClassId) (ad : Nat → Nat) (h : Nat → va_E) (F : mo_F) (L : mo_L) (S : Nat → Int32) {X : List Nat} {k0 : Nat} (hX : rs_X F S X) (h15 : S 15 = nI k0) (hk0 : k0 ≤ 1601) (h16 : S 16 = 0) : gx_Ct l D dA yy_Mo_takeLabel cc_Mo_takeLabel 2 (some .int) 2 0 0 [.ref (ad 43)] (gx_w ad (mo_h dA ad h F L S)) (fun v w => ∃ S2 z, v = some (.int z) ∧ w = (gx_w ad (mo_h dA ad h F L S2)) ∧ (∀ k, k ≠ 15 → k ≠ 16 → S2 k = S k) ∧ mp_q z S2 (pr_lab X k0)) := by
  refine gx_of (by decide) (Nat.le_of_ble_eq_true rfl) (fun K C _ _ => ?_)
  refine gx_aload_n C 0 dd_Mo_takeLabel_0 (kk := ?_)
  refine mo_get C fd_Mo_203 dd_Mo_takeLabel_1 (kk := ?_)
  refine gx_topi _ h16 ?_
  refine gx_if_eq C 9 dd_Mo_takeLabel_4 (fun h4 => ?_) (fun h4 => absurd rfl h4)
  refine gx_aload_n C 0 dd_Mo_takeLabel_9 (kk := ?_)
  refine gx_callV C (ct_Mo_isDigit (gx_l K) D dA ad h F L S hX h15 hk0) me_Mo_isDigit ml_Mo_209 mn_Mo_isDigit _ (gx_w_at (by decide) mo_h_43) rfl dd_Mo_takeLabel_10 (kk := fun v w hq => ?_)
  obtain ⟨rfl, rfl⟩ := hq
  rcases hdg0 : pr_dg X[k0]? with _ | _
  · have hpl : pr_lab X k0 = .inl (-4) := if_neg (by rw [hdg0]; decide)
    refine gx_if_ne C 24 dd_Mo_takeLabel_13 (fun h13 => absurd rfl h13) (fun h13 => ?_)
    refine gx_aload_n C 0 dd_Mo_takeLabel_16 (kk := ?_)
    refine gx_bipush (v := -4) C dd_Mo_takeLabel_17 (kk := ?_)
    refine gx_callV C (ct_Mo_fail (gx_l K) D dA ad h F L S h16 (-4)) me_Mo_fail ml_Mo_206 mn_Mo_fail _ (gx_w_at (by decide) mo_h_43) rfl dd_Mo_takeLabel_19 (kk := fun v w hq => ?_)
    obtain ⟨rfl, Sf, rfl, hSf⟩ := hq
    refine gx_iconst (v := nI 0) C dd_Mo_takeLabel_22 (kk := ?_)
    refine gx_iret C dd_Mo_takeLabel_23 ?_
    refine ⟨Sf, _, rfl, rfl, fun k a b => by rw [hSf, gm_un b], ?_⟩
    rw [hpl]
    exact ⟨by rw [hSf, gm_us], by decide⟩
  · obtain ⟨hpv, hd1, hd2⟩ := mp_h_v hdg0
    refine gx_if_ne C 24 dd_Mo_takeLabel_13 (fun h13 => ?_) (fun h13 => absurd (show true = false from fb_0.mp h13) (by decide))
    refine gx_aload_n C 0 dd_Mo_takeLabel_24 (kk := ?_)
    refine gx_callV C (ct_Mo_here (gx_l K) D dA ad h F L S hX h15 hk0) me_Mo_here ml_Mo_200 mn_Mo_here _ (gx_w_at (by decide) mo_h_43) rfl dd_Mo_takeLabel_25 (kk := fun v w hq => ?_)
    obtain ⟨rfl, rfl⟩ := hq
    refine gx_bipush (v := nI 48) C dd_Mo_takeLabel_28 (kk := ?_)
    refine gx_isub C dd_Mo_takeLabel_30 (kk := ?_)
    refine gx_topi (nI (pr_v X[k0]?)) (by rw [pk_sub (by omega), hpv]) ?_
    refine gx_istore_n C _ dd_Mo_takeLabel_31 (kk := ?_)
    refine gx_aload_n C 1 dd_Mo_takeLabel_32 (kk := ?_)
    refine gx_dup C dd_Mo_takeLabel_33 (kk := ?_)
    refine mo_get C fd_Mo_197 dd_Mo_takeLabel_34 (kk := ?_)
    refine gx_topi _ h15 ?_
    refine gx_iconst (v := nI 1) C dd_Mo_takeLabel_37 (kk := ?_)
    refine gx_iadd C dd_Mo_takeLabel_38 (kk := ?_)
    refine gx_topi _ (nI_add _ _) ?_
    refine mo_put_15 C fw_Mo_197 dd_Mo_takeLabel_39 (kk := fun S39 hS39 => ?_)
    by_cases h7 : pr_v X[k0]? < 8
    · have hpl : pr_lab X k0 = .inr (k0 + 1, pr_v X[k0]?) := by
        unfold pr_lab
        rw [if_pos hdg0, if_pos h7]
      refine gx_iload_n C 0 dd_Mo_takeLabel_42 (kk := ?_)
      refine gx_bipush (v := nI 7) C dd_Mo_takeLabel_43 (kk := ?_)
      refine gx_icmp_le C 54 dd_Mo_takeLabel_45 (fun h45 => ?_) (fun h45 => absurd (nI_le (by omega) (by decide)) h45)
      refine gx_iload_n C 0 dd_Mo_takeLabel_54 (kk := ?_)
      refine gx_iret C dd_Mo_takeLabel_55 ?_
      refine ⟨S39, _, rfl, rfl, fun k a b => by rw [hS39, gm_un a], ?_⟩
      rw [hpl]
      exact ⟨by rw [hS39, gm_un (by decide)]; exact h16, by rw [hS39, gm_us], rfl⟩
    · have hpl : pr_lab X k0 = .inl (-5) := by
        unfold pr_lab
        rw [if_pos hdg0, if_neg h7]
      refine gx_iload_n C 0 dd_Mo_takeLabel_42 (kk := ?_)
      refine gx_bipush (v := nI 7) C dd_Mo_takeLabel_43 (kk := ?_)
      refine gx_icmp_le C 54 dd_Mo_takeLabel_45 (fun h45 => absurd h45 (nI_ge (by omega) (by omega))) (fun h45 => ?_)
      refine gx_aload_n C 1 dd_Mo_takeLabel_48 (kk := ?_)
      refine gx_bipush (v := -5) C dd_Mo_takeLabel_49 (kk := ?_)
      refine gx_callV C (ct_Mo_fail (gx_l K) D dA ad h F L S39 (by rw [hS39, gm_un (by decide)]; exact h16) (-5)) me_Mo_fail ml_Mo_206 mn_Mo_fail _ (gx_w_at (by decide) mo_h_43) rfl dd_Mo_takeLabel_51 (kk := fun v w hq => ?_)
      obtain ⟨rfl, Sg, rfl, hSg⟩ := hq
      refine gx_iload_n C 0 dd_Mo_takeLabel_54 (kk := ?_)
      refine gx_iret C dd_Mo_takeLabel_55 ?_
      refine ⟨Sg, _, rfl, rfl, fun k a b => by rw [hSg, gm_un b, hS39, gm_un a], ?_⟩
      rw [hpl]
      exact ⟨by rw [hSg, gm_us], by decide⟩
set_option maxRecDepth 100000 in
set_option maxHeartbeats 4000000 in
theorem ct_Mo_parseArc (l : Launch) (D : va_G) (dA : Nat → ClassId) (ad : Nat → Nat) (h : Nat → va_E) (F : mo_F) (L : mo_L) (S : Nat → Int32) {X : List Nat} {k0 : Nat} (hX : rs_X F S X) (h15 : S 15 = nI k0) (hk0 : k0 ≤ 1601) (h16 : S 16 = 0) {a : am_T} (hA : mo_is F L 4 a) (hok : am_ok a) : gx_Ct l D dA yy_Mo_parseArc cc_Mo_parseArc 7 none 4 0 0 [.ref (ad 43)] (gx_w ad (mo_h dA ad h F L S)) (fun v w => v = none ∧ ∃ F2 L2 S2, w = (gx_w ad (mo_h dA ad h F2 L2 S2)) ∧ mo_w F L F2 L2 ∧ (∀ k, k ≠ 15 → k ≠ 16 → S2 k = S k) ∧ mp_i F2 L2 S2 (pr_ar X a k0)) := by
  refine gx_of (by decide) (Nat.le_of_ble_eq_true rfl) (fun K C _ _ => ?_)
  have hl16 := hX.2.2.1
  have hn16 := hok.1.1
  refine gx_aload_n C 0 dd_Mo_parseArc_0 (kk := ?_)
  refine gx_callV C (ct_Mo_takeState (gx_l K) D dA ad h F L S hX h15 hk0 h16 (n := (am_n a)) hA.1 hok.1.1) me_Mo_takeState ml_Mo_222 mn_Mo_takeState _ (gx_w_at (by decide) mo_h_43) rfl dd_Mo_parseArc_1 (kk := fun v w hq => ?_)
  obtain ⟨S_0, z_0, rfl, rfl, fr0_0, hmp_0⟩ := hq
  have fr_0 := mp_tr (fun _ _ _ => rfl) fr0_0
  rcases e_0 : pr_num X (am_n a) k0 with f | x_0
  · rw [e_0] at hmp_0
    obtain ⟨hb16, hbne⟩ := hmp_0
    have hbad : ¬ S_0 16 = 0 := by rw [hb16]; exact hbne
    refine gx_istore_n C _ dd_Mo_parseArc_4 (kk := ?_)
    refine gx_aload_n C 1 dd_Mo_parseArc_5 (kk := ?_)
    refine gx_bipush (v := nI 45) C dd_Mo_parseArc_6 (kk := ?_)
    refine gx_callV C (ct_Mo_takeIfF (gx_l K) D dA ad h F L S_0 hbad _) me_Mo_takeIf ml_Mo_225 mn_Mo_takeIf _ (gx_w_at (by decide) mo_h_43) rfl dd_Mo_parseArc_8 (kk := fun v w hq => ?_)
    obtain ⟨rfl, rfl⟩ := hq
    skip
    · refine gx_aload_n C 1 dd_Mo_parseArc_11 (kk := ?_)
      refine gx_callV C (ct_Mo_takeStateF (gx_l K) D dA ad h F L S_0 hbad) me_Mo_takeState ml_Mo_222 mn_Mo_takeState _ (gx_w_at (by decide) mo_h_43) rfl dd_Mo_parseArc_12 (kk := fun v w hq => ?_)
      obtain ⟨rfl, rfl⟩ := hq
      skip
      · refine gx_istore_n C _ dd_Mo_parseArc_15 (kk := ?_)
        refine gx_aload_n C 2 dd_Mo_parseArc_16 (kk := ?_)
        refine gx_bipush (v := nI 58) C dd_Mo_parseArc_17 (kk := ?_)
        refine gx_callV C (ct_Mo_takeIfF (gx_l K) D dA ad h F L S_0 hbad _) me_Mo_takeIf ml_Mo_225 mn_Mo_takeIf _ (gx_w_at (by decide) mo_h_43) rfl dd_Mo_parseArc_19 (kk := fun v w hq => ?_)
        obtain ⟨rfl, rfl⟩ := hq
        skip
        · refine gx_aload_n C 2 dd_Mo_parseArc_22 (kk := ?_)
          refine gx_callV C (ct_Mo_takeLabelF (gx_l K) D dA ad h F L S_0 hbad) me_Mo_takeLabel ml_Mo_228 mn_Mo_takeLabel _ (gx_w_at (by decide) mo_h_43) rfl dd_Mo_parseArc_23 (kk := fun v w hq => ?_)
          obtain ⟨rfl, rfl⟩ := hq
          skip
          · refine gx_istore_n C _ dd_Mo_parseArc_26 (kk := ?_)
            refine gx_aload_n C 3 dd_Mo_parseArc_27 (kk := ?_)
            refine gx_callV C (ct_Mo_takeLabelF (gx_l K) D dA ad h F L S_0 hbad) me_Mo_takeLabel ml_Mo_228 mn_Mo_takeLabel _ (gx_w_at (by decide) mo_h_43) rfl dd_Mo_parseArc_28 (kk := fun v w hq => ?_)
            obtain ⟨rfl, rfl⟩ := hq
            skip
            · refine gx_istore C _ dd_Mo_parseArc_31 (kk := ?_)
              refine gx_aload_n C 4 dd_Mo_parseArc_33 (kk := ?_)
              refine gx_bipush (v := nI 47) C dd_Mo_parseArc_34 (kk := ?_)
              refine gx_callV C (ct_Mo_takeIfF (gx_l K) D dA ad h F L S_0 hbad _) me_Mo_takeIf ml_Mo_225 mn_Mo_takeIf _ (gx_w_at (by decide) mo_h_43) rfl dd_Mo_parseArc_36 (kk := fun v w hq => ?_)
              obtain ⟨rfl, rfl⟩ := hq
              skip
              · refine gx_aload_n C 4 dd_Mo_parseArc_39 (kk := ?_)
                refine gx_ldc2 C dd_Mo_parseArc_40 kc_Mo_85 (kk := ?_)
                refine gx_callV C (ct_Mo_takeNumberF (gx_l K) D dA ad h F L S_0 hbad _) me_Mo_takeNumber ml_Mo_215 mn_Mo_takeNumber _ (gx_w_at (by decide) mo_h_43) rfl dd_Mo_parseArc_43 (kk := fun v w hq => ?_)
                obtain ⟨rfl, rfl⟩ := hq
                skip
                · refine gx_lstore C _ dd_Mo_parseArc_46 (kk := ?_)
                  refine gx_aload_n C 5 dd_Mo_parseArc_48 (kk := ?_)
                  refine gx_bipush (v := nI 59) C dd_Mo_parseArc_49 (kk := ?_)
                  refine gx_callV C (ct_Mo_takeIfF (gx_l K) D dA ad h F L S_0 hbad _) me_Mo_takeIf ml_Mo_225 mn_Mo_takeIf _ (gx_w_at (by decide) mo_h_43) rfl dd_Mo_parseArc_51 (kk := fun v w hq => ?_)
                  obtain ⟨rfl, rfl⟩ := hq
                  skip
                  · refine gx_aload_n C 5 dd_Mo_parseArc_54 (kk := ?_)
                    refine mo_get C fd_Mo_203 dd_Mo_parseArc_55 (kk := ?_)
                    skip
                    refine gx_if_ne C 82 dd_Mo_parseArc_58 (fun h58 => ?_) (fun h58 => absurd h58 hbad)
                    refine gx_vret C dd_Mo_parseArc_82 ?_
                    have hR : pr_ar X a k0 = .inl f := by
                      unfold pr_ar
                      rw [pr_bdl e_0]
                    refine ⟨rfl, F, L, S_0, rfl, mo_w_rf, fr_0, ?_⟩
                    rw [hR]
                    exact ⟨hb16, hbne⟩
  · rw [e_0] at hmp_0
    obtain ⟨h16_0, h15_0, rfl⟩ := hmp_0
    have hr_0 := pr_num_r e_0
    have hX_0 := mp_X fr0_0 hX
    have hk_0 : x_0.1 ≤ 1601 := by omega
    refine gx_istore_n C _ dd_Mo_parseArc_4 (kk := ?_)
    refine gx_aload_n C 1 dd_Mo_parseArc_5 (kk := ?_)
    refine gx_bipush (v := nI 45) C dd_Mo_parseArc_6 (kk := ?_)
    refine gx_callV C (ct_Mo_takeIf (gx_l K) D dA ad h F L S_0 hX_0 h15_0 hk_0 h16_0 (c := 45) (by decide) (by decide)) me_Mo_takeIf ml_Mo_225 mn_Mo_takeIf _ (gx_w_at (by decide) mo_h_43) rfl dd_Mo_parseArc_8 (kk := fun v w hq => ?_)
    obtain ⟨rfl, S_1, rfl, fr0_1, hmp_1⟩ := hq
    have fr_1 := mp_tr fr_0 fr0_1
    rcases e_1 : pr_sgn X 45 x_0.1 with f | k_1
    · rw [e_1] at hmp_1
      obtain ⟨hb16, hbne⟩ := hmp_1
      have hbad : ¬ S_1 16 = 0 := by rw [hb16]; exact hbne
      refine gx_aload_n C 1 dd_Mo_parseArc_11 (kk := ?_)
      refine gx_callV C (ct_Mo_takeStateF (gx_l K) D dA ad h F L S_1 hbad) me_Mo_takeState ml_Mo_222 mn_Mo_takeState _ (gx_w_at (by decide) mo_h_43) rfl dd_Mo_parseArc_12 (kk := fun v w hq => ?_)
      obtain ⟨rfl, rfl⟩ := hq
      skip
      · refine gx_istore_n C _ dd_Mo_parseArc_15 (kk := ?_)
        refine gx_aload_n C 2 dd_Mo_parseArc_16 (kk := ?_)
        refine gx_bipush (v := nI 58) C dd_Mo_parseArc_17 (kk := ?_)
        refine gx_callV C (ct_Mo_takeIfF (gx_l K) D dA ad h F L S_1 hbad _) me_Mo_takeIf ml_Mo_225 mn_Mo_takeIf _ (gx_w_at (by decide) mo_h_43) rfl dd_Mo_parseArc_19 (kk := fun v w hq => ?_)
        obtain ⟨rfl, rfl⟩ := hq
        skip
        · refine gx_aload_n C 2 dd_Mo_parseArc_22 (kk := ?_)
          refine gx_callV C (ct_Mo_takeLabelF (gx_l K) D dA ad h F L S_1 hbad) me_Mo_takeLabel ml_Mo_228 mn_Mo_takeLabel _ (gx_w_at (by decide) mo_h_43) rfl dd_Mo_parseArc_23 (kk := fun v w hq => ?_)
          obtain ⟨rfl, rfl⟩ := hq
          skip
          · refine gx_istore_n C _ dd_Mo_parseArc_26 (kk := ?_)
            refine gx_aload_n C 3 dd_Mo_parseArc_27 (kk := ?_)
            refine gx_callV C (ct_Mo_takeLabelF (gx_l K) D dA ad h F L S_1 hbad) me_Mo_takeLabel ml_Mo_228 mn_Mo_takeLabel _ (gx_w_at (by decide) mo_h_43) rfl dd_Mo_parseArc_28 (kk := fun v w hq => ?_)
            obtain ⟨rfl, rfl⟩ := hq
            skip
            · refine gx_istore C _ dd_Mo_parseArc_31 (kk := ?_)
              refine gx_aload_n C 4 dd_Mo_parseArc_33 (kk := ?_)
              refine gx_bipush (v := nI 47) C dd_Mo_parseArc_34 (kk := ?_)
              refine gx_callV C (ct_Mo_takeIfF (gx_l K) D dA ad h F L S_1 hbad _) me_Mo_takeIf ml_Mo_225 mn_Mo_takeIf _ (gx_w_at (by decide) mo_h_43) rfl dd_Mo_parseArc_36 (kk := fun v w hq => ?_)
              obtain ⟨rfl, rfl⟩ := hq
              skip
              · refine gx_aload_n C 4 dd_Mo_parseArc_39 (kk := ?_)
                refine gx_ldc2 C dd_Mo_parseArc_40 kc_Mo_85 (kk := ?_)
                refine gx_callV C (ct_Mo_takeNumberF (gx_l K) D dA ad h F L S_1 hbad _) me_Mo_takeNumber ml_Mo_215 mn_Mo_takeNumber _ (gx_w_at (by decide) mo_h_43) rfl dd_Mo_parseArc_43 (kk := fun v w hq => ?_)
                obtain ⟨rfl, rfl⟩ := hq
                skip
                · refine gx_lstore C _ dd_Mo_parseArc_46 (kk := ?_)
                  refine gx_aload_n C 5 dd_Mo_parseArc_48 (kk := ?_)
                  refine gx_bipush (v := nI 59) C dd_Mo_parseArc_49 (kk := ?_)
                  refine gx_callV C (ct_Mo_takeIfF (gx_l K) D dA ad h F L S_1 hbad _) me_Mo_takeIf ml_Mo_225 mn_Mo_takeIf _ (gx_w_at (by decide) mo_h_43) rfl dd_Mo_parseArc_51 (kk := fun v w hq => ?_)
                  obtain ⟨rfl, rfl⟩ := hq
                  skip
                  · refine gx_aload_n C 5 dd_Mo_parseArc_54 (kk := ?_)
                    refine mo_get C fd_Mo_203 dd_Mo_parseArc_55 (kk := ?_)
                    skip
                    refine gx_if_ne C 82 dd_Mo_parseArc_58 (fun h58 => ?_) (fun h58 => absurd h58 hbad)
                    refine gx_vret C dd_Mo_parseArc_82 ?_
                    have hR : pr_ar X a k0 = .inl f := by
                      unfold pr_ar
                      rw [pr_bdr e_0, pr_bdl e_1]
                    refine ⟨rfl, F, L, S_1, rfl, mo_w_rf, fr_1, ?_⟩
                    rw [hR]
                    exact ⟨hb16, hbne⟩
    · rw [e_1] at hmp_1
      obtain ⟨h16_1, h15_1⟩ := hmp_1
      have hr_1 := pr_sgn_r e_1
      have hX_1 := mp_X fr0_1 hX_0
      have hk_1 : k_1 ≤ 1601 := by omega
      refine gx_aload_n C 1 dd_Mo_parseArc_11 (kk := ?_)
      refine gx_callV C (ct_Mo_takeState (gx_l K) D dA ad h F L S_1 hX_1 h15_1 hk_1 h16_1 (n := (am_n a)) hA.1 hok.1.1) me_Mo_takeState ml_Mo_222 mn_Mo_takeState _ (gx_w_at (by decide) mo_h_43) rfl dd_Mo_parseArc_12 (kk := fun v w hq => ?_)
      obtain ⟨S_2, z_2, rfl, rfl, fr0_2, hmp_2⟩ := hq
      have fr_2 := mp_tr fr_1 fr0_2
      rcases e_2 : pr_num X (am_n a) k_1 with f | x_2
      · rw [e_2] at hmp_2
        obtain ⟨hb16, hbne⟩ := hmp_2
        have hbad : ¬ S_2 16 = 0 := by rw [hb16]; exact hbne
        refine gx_istore_n C _ dd_Mo_parseArc_15 (kk := ?_)
        refine gx_aload_n C 2 dd_Mo_parseArc_16 (kk := ?_)
        refine gx_bipush (v := nI 58) C dd_Mo_parseArc_17 (kk := ?_)
        refine gx_callV C (ct_Mo_takeIfF (gx_l K) D dA ad h F L S_2 hbad _) me_Mo_takeIf ml_Mo_225 mn_Mo_takeIf _ (gx_w_at (by decide) mo_h_43) rfl dd_Mo_parseArc_19 (kk := fun v w hq => ?_)
        obtain ⟨rfl, rfl⟩ := hq
        skip
        · refine gx_aload_n C 2 dd_Mo_parseArc_22 (kk := ?_)
          refine gx_callV C (ct_Mo_takeLabelF (gx_l K) D dA ad h F L S_2 hbad) me_Mo_takeLabel ml_Mo_228 mn_Mo_takeLabel _ (gx_w_at (by decide) mo_h_43) rfl dd_Mo_parseArc_23 (kk := fun v w hq => ?_)
          obtain ⟨rfl, rfl⟩ := hq
          skip
          · refine gx_istore_n C _ dd_Mo_parseArc_26 (kk := ?_)
            refine gx_aload_n C 3 dd_Mo_parseArc_27 (kk := ?_)
            refine gx_callV C (ct_Mo_takeLabelF (gx_l K) D dA ad h F L S_2 hbad) me_Mo_takeLabel ml_Mo_228 mn_Mo_takeLabel _ (gx_w_at (by decide) mo_h_43) rfl dd_Mo_parseArc_28 (kk := fun v w hq => ?_)
            obtain ⟨rfl, rfl⟩ := hq
            skip
            · refine gx_istore C _ dd_Mo_parseArc_31 (kk := ?_)
              refine gx_aload_n C 4 dd_Mo_parseArc_33 (kk := ?_)
              refine gx_bipush (v := nI 47) C dd_Mo_parseArc_34 (kk := ?_)
              refine gx_callV C (ct_Mo_takeIfF (gx_l K) D dA ad h F L S_2 hbad _) me_Mo_takeIf ml_Mo_225 mn_Mo_takeIf _ (gx_w_at (by decide) mo_h_43) rfl dd_Mo_parseArc_36 (kk := fun v w hq => ?_)
              obtain ⟨rfl, rfl⟩ := hq
              skip
              · refine gx_aload_n C 4 dd_Mo_parseArc_39 (kk := ?_)
                refine gx_ldc2 C dd_Mo_parseArc_40 kc_Mo_85 (kk := ?_)
                refine gx_callV C (ct_Mo_takeNumberF (gx_l K) D dA ad h F L S_2 hbad _) me_Mo_takeNumber ml_Mo_215 mn_Mo_takeNumber _ (gx_w_at (by decide) mo_h_43) rfl dd_Mo_parseArc_43 (kk := fun v w hq => ?_)
                obtain ⟨rfl, rfl⟩ := hq
                skip
                · refine gx_lstore C _ dd_Mo_parseArc_46 (kk := ?_)
                  refine gx_aload_n C 5 dd_Mo_parseArc_48 (kk := ?_)
                  refine gx_bipush (v := nI 59) C dd_Mo_parseArc_49 (kk := ?_)
                  refine gx_callV C (ct_Mo_takeIfF (gx_l K) D dA ad h F L S_2 hbad _) me_Mo_takeIf ml_Mo_225 mn_Mo_takeIf _ (gx_w_at (by decide) mo_h_43) rfl dd_Mo_parseArc_51 (kk := fun v w hq => ?_)
                  obtain ⟨rfl, rfl⟩ := hq
                  skip
                  · refine gx_aload_n C 5 dd_Mo_parseArc_54 (kk := ?_)
                    refine mo_get C fd_Mo_203 dd_Mo_parseArc_55 (kk := ?_)
                    skip
                    refine gx_if_ne C 82 dd_Mo_parseArc_58 (fun h58 => ?_) (fun h58 => absurd h58 hbad)
                    refine gx_vret C dd_Mo_parseArc_82 ?_
                    have hR : pr_ar X a k0 = .inl f := by
                      unfold pr_ar
                      rw [pr_bdr e_0, pr_bdr e_1, pr_bdl e_2]
                    refine ⟨rfl, F, L, S_2, rfl, mo_w_rf, fr_2, ?_⟩
                    rw [hR]
                    exact ⟨hb16, hbne⟩
      · rw [e_2] at hmp_2
        obtain ⟨h16_2, h15_2, rfl⟩ := hmp_2
        have hr_2 := pr_num_r e_2
        have hX_2 := mp_X fr0_2 hX_1
        have hk_2 : x_2.1 ≤ 1601 := by omega
        refine gx_istore_n C _ dd_Mo_parseArc_15 (kk := ?_)
        refine gx_aload_n C 2 dd_Mo_parseArc_16 (kk := ?_)
        refine gx_bipush (v := nI 58) C dd_Mo_parseArc_17 (kk := ?_)
        refine gx_callV C (ct_Mo_takeIf (gx_l K) D dA ad h F L S_2 hX_2 h15_2 hk_2 h16_2 (c := 58) (by decide) (by decide)) me_Mo_takeIf ml_Mo_225 mn_Mo_takeIf _ (gx_w_at (by decide) mo_h_43) rfl dd_Mo_parseArc_19 (kk := fun v w hq => ?_)
        obtain ⟨rfl, S_3, rfl, fr0_3, hmp_3⟩ := hq
        have fr_3 := mp_tr fr_2 fr0_3
        rcases e_3 : pr_sgn X 58 x_2.1 with f | k_3
        · rw [e_3] at hmp_3
          obtain ⟨hb16, hbne⟩ := hmp_3
          have hbad : ¬ S_3 16 = 0 := by rw [hb16]; exact hbne
          refine gx_aload_n C 2 dd_Mo_parseArc_22 (kk := ?_)
          refine gx_callV C (ct_Mo_takeLabelF (gx_l K) D dA ad h F L S_3 hbad) me_Mo_takeLabel ml_Mo_228 mn_Mo_takeLabel _ (gx_w_at (by decide) mo_h_43) rfl dd_Mo_parseArc_23 (kk := fun v w hq => ?_)
          obtain ⟨rfl, rfl⟩ := hq
          skip
          · refine gx_istore_n C _ dd_Mo_parseArc_26 (kk := ?_)
            refine gx_aload_n C 3 dd_Mo_parseArc_27 (kk := ?_)
            refine gx_callV C (ct_Mo_takeLabelF (gx_l K) D dA ad h F L S_3 hbad) me_Mo_takeLabel ml_Mo_228 mn_Mo_takeLabel _ (gx_w_at (by decide) mo_h_43) rfl dd_Mo_parseArc_28 (kk := fun v w hq => ?_)
            obtain ⟨rfl, rfl⟩ := hq
            skip
            · refine gx_istore C _ dd_Mo_parseArc_31 (kk := ?_)
              refine gx_aload_n C 4 dd_Mo_parseArc_33 (kk := ?_)
              refine gx_bipush (v := nI 47) C dd_Mo_parseArc_34 (kk := ?_)
              refine gx_callV C (ct_Mo_takeIfF (gx_l K) D dA ad h F L S_3 hbad _) me_Mo_takeIf ml_Mo_225 mn_Mo_takeIf _ (gx_w_at (by decide) mo_h_43) rfl dd_Mo_parseArc_36 (kk := fun v w hq => ?_)
              obtain ⟨rfl, rfl⟩ := hq
              skip
              · refine gx_aload_n C 4 dd_Mo_parseArc_39 (kk := ?_)
                refine gx_ldc2 C dd_Mo_parseArc_40 kc_Mo_85 (kk := ?_)
                refine gx_callV C (ct_Mo_takeNumberF (gx_l K) D dA ad h F L S_3 hbad _) me_Mo_takeNumber ml_Mo_215 mn_Mo_takeNumber _ (gx_w_at (by decide) mo_h_43) rfl dd_Mo_parseArc_43 (kk := fun v w hq => ?_)
                obtain ⟨rfl, rfl⟩ := hq
                skip
                · refine gx_lstore C _ dd_Mo_parseArc_46 (kk := ?_)
                  refine gx_aload_n C 5 dd_Mo_parseArc_48 (kk := ?_)
                  refine gx_bipush (v := nI 59) C dd_Mo_parseArc_49 (kk := ?_)
                  refine gx_callV C (ct_Mo_takeIfF (gx_l K) D dA ad h F L S_3 hbad _) me_Mo_takeIf ml_Mo_225 mn_Mo_takeIf _ (gx_w_at (by decide) mo_h_43) rfl dd_Mo_parseArc_51 (kk := fun v w hq => ?_)
                  obtain ⟨rfl, rfl⟩ := hq
                  skip
                  · refine gx_aload_n C 5 dd_Mo_parseArc_54 (kk := ?_)
                    refine mo_get C fd_Mo_203 dd_Mo_parseArc_55 (kk := ?_)
                    skip
                    refine gx_if_ne C 82 dd_Mo_parseArc_58 (fun h58 => ?_) (fun h58 => absurd h58 hbad)
                    refine gx_vret C dd_Mo_parseArc_82 ?_
                    have hR : pr_ar X a k0 = .inl f := by
                      unfold pr_ar
                      rw [pr_bdr e_0, pr_bdr e_1, pr_bdr e_2, pr_bdl e_3]
                    refine ⟨rfl, F, L, S_3, rfl, mo_w_rf, fr_3, ?_⟩
                    rw [hR]
                    exact ⟨hb16, hbne⟩
        · rw [e_3] at hmp_3
          obtain ⟨h16_3, h15_3⟩ := hmp_3
          have hr_3 := pr_sgn_r e_3
          have hX_3 := mp_X fr0_3 hX_2
          have hk_3 : k_3 ≤ 1601 := by omega
          refine gx_aload_n C 2 dd_Mo_parseArc_22 (kk := ?_)
          refine gx_callV C (ct_Mo_takeLabel (gx_l K) D dA ad h F L S_3 hX_3 h15_3 hk_3 h16_3) me_Mo_takeLabel ml_Mo_228 mn_Mo_takeLabel _ (gx_w_at (by decide) mo_h_43) rfl dd_Mo_parseArc_23 (kk := fun v w hq => ?_)
          obtain ⟨S_4, z_4, rfl, rfl, fr0_4, hmp_4⟩ := hq
          have fr_4 := mp_tr fr_3 fr0_4
          rcases e_4 : pr_lab X k_3 with f | x_4
          · rw [e_4] at hmp_4
            obtain ⟨hb16, hbne⟩ := hmp_4
            have hbad : ¬ S_4 16 = 0 := by rw [hb16]; exact hbne
            refine gx_istore_n C _ dd_Mo_parseArc_26 (kk := ?_)
            refine gx_aload_n C 3 dd_Mo_parseArc_27 (kk := ?_)
            refine gx_callV C (ct_Mo_takeLabelF (gx_l K) D dA ad h F L S_4 hbad) me_Mo_takeLabel ml_Mo_228 mn_Mo_takeLabel _ (gx_w_at (by decide) mo_h_43) rfl dd_Mo_parseArc_28 (kk := fun v w hq => ?_)
            obtain ⟨rfl, rfl⟩ := hq
            skip
            · refine gx_istore C _ dd_Mo_parseArc_31 (kk := ?_)
              refine gx_aload_n C 4 dd_Mo_parseArc_33 (kk := ?_)
              refine gx_bipush (v := nI 47) C dd_Mo_parseArc_34 (kk := ?_)
              refine gx_callV C (ct_Mo_takeIfF (gx_l K) D dA ad h F L S_4 hbad _) me_Mo_takeIf ml_Mo_225 mn_Mo_takeIf _ (gx_w_at (by decide) mo_h_43) rfl dd_Mo_parseArc_36 (kk := fun v w hq => ?_)
              obtain ⟨rfl, rfl⟩ := hq
              skip
              · refine gx_aload_n C 4 dd_Mo_parseArc_39 (kk := ?_)
                refine gx_ldc2 C dd_Mo_parseArc_40 kc_Mo_85 (kk := ?_)
                refine gx_callV C (ct_Mo_takeNumberF (gx_l K) D dA ad h F L S_4 hbad _) me_Mo_takeNumber ml_Mo_215 mn_Mo_takeNumber _ (gx_w_at (by decide) mo_h_43) rfl dd_Mo_parseArc_43 (kk := fun v w hq => ?_)
                obtain ⟨rfl, rfl⟩ := hq
                skip
                · refine gx_lstore C _ dd_Mo_parseArc_46 (kk := ?_)
                  refine gx_aload_n C 5 dd_Mo_parseArc_48 (kk := ?_)
                  refine gx_bipush (v := nI 59) C dd_Mo_parseArc_49 (kk := ?_)
                  refine gx_callV C (ct_Mo_takeIfF (gx_l K) D dA ad h F L S_4 hbad _) me_Mo_takeIf ml_Mo_225 mn_Mo_takeIf _ (gx_w_at (by decide) mo_h_43) rfl dd_Mo_parseArc_51 (kk := fun v w hq => ?_)
                  obtain ⟨rfl, rfl⟩ := hq
                  skip
                  · refine gx_aload_n C 5 dd_Mo_parseArc_54 (kk := ?_)
                    refine mo_get C fd_Mo_203 dd_Mo_parseArc_55 (kk := ?_)
                    skip
                    refine gx_if_ne C 82 dd_Mo_parseArc_58 (fun h58 => ?_) (fun h58 => absurd h58 hbad)
                    refine gx_vret C dd_Mo_parseArc_82 ?_
                    have hR : pr_ar X a k0 = .inl f := by
                      unfold pr_ar
                      rw [pr_bdr e_0, pr_bdr e_1, pr_bdr e_2, pr_bdr e_3, pr_bdl e_4]
                    refine ⟨rfl, F, L, S_4, rfl, mo_w_rf, fr_4, ?_⟩
                    rw [hR]
                    exact ⟨hb16, hbne⟩
          · rw [e_4] at hmp_4
            obtain ⟨h16_4, h15_4, rfl⟩ := hmp_4
            have hr_4 := pr_lab_r e_4
            have hX_4 := mp_X fr0_4 hX_3
            have hk_4 : x_4.1 ≤ 1601 := by omega
            refine gx_istore_n C _ dd_Mo_parseArc_26 (kk := ?_)
            refine gx_aload_n C 3 dd_Mo_parseArc_27 (kk := ?_)
            refine gx_callV C (ct_Mo_takeLabel (gx_l K) D dA ad h F L S_4 hX_4 h15_4 hk_4 h16_4) me_Mo_takeLabel ml_Mo_228 mn_Mo_takeLabel _ (gx_w_at (by decide) mo_h_43) rfl dd_Mo_parseArc_28 (kk := fun v w hq => ?_)
            obtain ⟨S_5, z_5, rfl, rfl, fr0_5, hmp_5⟩ := hq
            have fr_5 := mp_tr fr_4 fr0_5
            rcases e_5 : pr_lab X x_4.1 with f | x_5
            · rw [e_5] at hmp_5
              obtain ⟨hb16, hbne⟩ := hmp_5
              have hbad : ¬ S_5 16 = 0 := by rw [hb16]; exact hbne
              refine gx_istore C _ dd_Mo_parseArc_31 (kk := ?_)
              refine gx_aload_n C 4 dd_Mo_parseArc_33 (kk := ?_)
              refine gx_bipush (v := nI 47) C dd_Mo_parseArc_34 (kk := ?_)
              refine gx_callV C (ct_Mo_takeIfF (gx_l K) D dA ad h F L S_5 hbad _) me_Mo_takeIf ml_Mo_225 mn_Mo_takeIf _ (gx_w_at (by decide) mo_h_43) rfl dd_Mo_parseArc_36 (kk := fun v w hq => ?_)
              obtain ⟨rfl, rfl⟩ := hq
              skip
              · refine gx_aload_n C 4 dd_Mo_parseArc_39 (kk := ?_)
                refine gx_ldc2 C dd_Mo_parseArc_40 kc_Mo_85 (kk := ?_)
                refine gx_callV C (ct_Mo_takeNumberF (gx_l K) D dA ad h F L S_5 hbad _) me_Mo_takeNumber ml_Mo_215 mn_Mo_takeNumber _ (gx_w_at (by decide) mo_h_43) rfl dd_Mo_parseArc_43 (kk := fun v w hq => ?_)
                obtain ⟨rfl, rfl⟩ := hq
                skip
                · refine gx_lstore C _ dd_Mo_parseArc_46 (kk := ?_)
                  refine gx_aload_n C 5 dd_Mo_parseArc_48 (kk := ?_)
                  refine gx_bipush (v := nI 59) C dd_Mo_parseArc_49 (kk := ?_)
                  refine gx_callV C (ct_Mo_takeIfF (gx_l K) D dA ad h F L S_5 hbad _) me_Mo_takeIf ml_Mo_225 mn_Mo_takeIf _ (gx_w_at (by decide) mo_h_43) rfl dd_Mo_parseArc_51 (kk := fun v w hq => ?_)
                  obtain ⟨rfl, rfl⟩ := hq
                  skip
                  · refine gx_aload_n C 5 dd_Mo_parseArc_54 (kk := ?_)
                    refine mo_get C fd_Mo_203 dd_Mo_parseArc_55 (kk := ?_)
                    skip
                    refine gx_if_ne C 82 dd_Mo_parseArc_58 (fun h58 => ?_) (fun h58 => absurd h58 hbad)
                    refine gx_vret C dd_Mo_parseArc_82 ?_
                    have hR : pr_ar X a k0 = .inl f := by
                      unfold pr_ar
                      rw [pr_bdr e_0, pr_bdr e_1, pr_bdr e_2, pr_bdr e_3, pr_bdr e_4, pr_bdl e_5]
                    refine ⟨rfl, F, L, S_5, rfl, mo_w_rf, fr_5, ?_⟩
                    rw [hR]
                    exact ⟨hb16, hbne⟩
            · rw [e_5] at hmp_5
              obtain ⟨h16_5, h15_5, rfl⟩ := hmp_5
              have hr_5 := pr_lab_r e_5
              have hX_5 := mp_X fr0_5 hX_4
              have hk_5 : x_5.1 ≤ 1601 := by omega
              refine gx_istore C _ dd_Mo_parseArc_31 (kk := ?_)
              refine gx_aload_n C 4 dd_Mo_parseArc_33 (kk := ?_)
              refine gx_bipush (v := nI 47) C dd_Mo_parseArc_34 (kk := ?_)
              refine gx_callV C (ct_Mo_takeIf (gx_l K) D dA ad h F L S_5 hX_5 h15_5 hk_5 h16_5 (c := 47) (by decide) (by decide)) me_Mo_takeIf ml_Mo_225 mn_Mo_takeIf _ (gx_w_at (by decide) mo_h_43) rfl dd_Mo_parseArc_36 (kk := fun v w hq => ?_)
              obtain ⟨rfl, S_6, rfl, fr0_6, hmp_6⟩ := hq
              have fr_6 := mp_tr fr_5 fr0_6
              rcases e_6 : pr_sgn X 47 x_5.1 with f | k_6
              · rw [e_6] at hmp_6
                obtain ⟨hb16, hbne⟩ := hmp_6
                have hbad : ¬ S_6 16 = 0 := by rw [hb16]; exact hbne
                refine gx_aload_n C 4 dd_Mo_parseArc_39 (kk := ?_)
                refine gx_ldc2 C dd_Mo_parseArc_40 kc_Mo_85 (kk := ?_)
                refine gx_callV C (ct_Mo_takeNumberF (gx_l K) D dA ad h F L S_6 hbad _) me_Mo_takeNumber ml_Mo_215 mn_Mo_takeNumber _ (gx_w_at (by decide) mo_h_43) rfl dd_Mo_parseArc_43 (kk := fun v w hq => ?_)
                obtain ⟨rfl, rfl⟩ := hq
                skip
                · refine gx_lstore C _ dd_Mo_parseArc_46 (kk := ?_)
                  refine gx_aload_n C 5 dd_Mo_parseArc_48 (kk := ?_)
                  refine gx_bipush (v := nI 59) C dd_Mo_parseArc_49 (kk := ?_)
                  refine gx_callV C (ct_Mo_takeIfF (gx_l K) D dA ad h F L S_6 hbad _) me_Mo_takeIf ml_Mo_225 mn_Mo_takeIf _ (gx_w_at (by decide) mo_h_43) rfl dd_Mo_parseArc_51 (kk := fun v w hq => ?_)
                  obtain ⟨rfl, rfl⟩ := hq
                  skip
                  · refine gx_aload_n C 5 dd_Mo_parseArc_54 (kk := ?_)
                    refine mo_get C fd_Mo_203 dd_Mo_parseArc_55 (kk := ?_)
                    skip
                    refine gx_if_ne C 82 dd_Mo_parseArc_58 (fun h58 => ?_) (fun h58 => absurd h58 hbad)
                    refine gx_vret C dd_Mo_parseArc_82 ?_
                    have hwt : pr_wt X x_5.1 = .inl f := by
                      unfold pr_wt
                      rw [pr_bdl e_6]
                    have hR : pr_ar X a k0 = .inl f := by
                      unfold pr_ar
                      rw [pr_bdr e_0, pr_bdr e_1, pr_bdr e_2, pr_bdr e_3, pr_bdr e_4, pr_bdr e_5, pr_bdl hwt]
                    refine ⟨rfl, F, L, S_6, rfl, mo_w_rf, fr_6, ?_⟩
                    rw [hR]
                    exact ⟨hb16, hbne⟩
              · rw [e_6] at hmp_6
                obtain ⟨h16_6, h15_6⟩ := hmp_6
                have hr_6 := pr_sgn_r e_6
                have hX_6 := mp_X fr0_6 hX_5
                have hk_6 : k_6 ≤ 1601 := by omega
                refine gx_aload_n C 4 dd_Mo_parseArc_39 (kk := ?_)
                refine gx_ldc2 C dd_Mo_parseArc_40 kc_Mo_85 (kk := ?_)
                refine gx_callV C (ct_Mo_takeNumber (gx_l K) D dA ad h F L S_6 hX_6 h15_6 hk_6 h16_6 (lim := 1000000001) (most := 1000000000) pr_lim9) me_Mo_takeNumber ml_Mo_215 mn_Mo_takeNumber _ (gx_w_at (by decide) mo_h_43) rfl dd_Mo_parseArc_43 (kk := fun v w hq => ?_)
                obtain ⟨S_7, z_7, rfl, rfl, fr0_7, hmp_7⟩ := hq
                have fr_7 := mp_tr fr_6 fr0_7
                rcases e_7 : pr_num X 1000000001 k_6 with f | x_7
                · rw [e_7] at hmp_7
                  obtain ⟨hb16, hbne⟩ := hmp_7
                  have hbad : ¬ S_7 16 = 0 := by rw [hb16]; exact hbne
                  refine gx_lstore C _ dd_Mo_parseArc_46 (kk := ?_)
                  refine gx_aload_n C 5 dd_Mo_parseArc_48 (kk := ?_)
                  refine gx_bipush (v := nI 59) C dd_Mo_parseArc_49 (kk := ?_)
                  refine gx_callV C (ct_Mo_takeIfF (gx_l K) D dA ad h F L S_7 hbad _) me_Mo_takeIf ml_Mo_225 mn_Mo_takeIf _ (gx_w_at (by decide) mo_h_43) rfl dd_Mo_parseArc_51 (kk := fun v w hq => ?_)
                  obtain ⟨rfl, rfl⟩ := hq
                  skip
                  · refine gx_aload_n C 5 dd_Mo_parseArc_54 (kk := ?_)
                    refine mo_get C fd_Mo_203 dd_Mo_parseArc_55 (kk := ?_)
                    skip
                    refine gx_if_ne C 82 dd_Mo_parseArc_58 (fun h58 => ?_) (fun h58 => absurd h58 hbad)
                    refine gx_vret C dd_Mo_parseArc_82 ?_
                    have hwt : pr_wt X x_5.1 = .inl f := by
                      unfold pr_wt
                      rw [pr_bdr e_6, pr_bdl e_7]
                    have hR : pr_ar X a k0 = .inl f := by
                      unfold pr_ar
                      rw [pr_bdr e_0, pr_bdr e_1, pr_bdr e_2, pr_bdr e_3, pr_bdr e_4, pr_bdr e_5, pr_bdl hwt]
                    refine ⟨rfl, F, L, S_7, rfl, mo_w_rf, fr_7, ?_⟩
                    rw [hR]
                    exact ⟨hb16, hbne⟩
                · rw [e_7] at hmp_7
                  obtain ⟨h16_7, h15_7, rfl⟩ := hmp_7
                  have hr_7 := pr_num_r e_7
                  have hX_7 := mp_X fr0_7 hX_6
                  have hk_7 : x_7.1 ≤ 1601 := by omega
                  refine gx_lstore C _ dd_Mo_parseArc_46 (kk := ?_)
                  refine gx_aload_n C 5 dd_Mo_parseArc_48 (kk := ?_)
                  refine gx_bipush (v := nI 59) C dd_Mo_parseArc_49 (kk := ?_)
                  refine gx_callV C (ct_Mo_takeIf (gx_l K) D dA ad h F L S_7 hX_7 h15_7 hk_7 h16_7 (c := 59) (by decide) (by decide)) me_Mo_takeIf ml_Mo_225 mn_Mo_takeIf _ (gx_w_at (by decide) mo_h_43) rfl dd_Mo_parseArc_51 (kk := fun v w hq => ?_)
                  obtain ⟨rfl, S_8, rfl, fr0_8, hmp_8⟩ := hq
                  have fr_8 := mp_tr fr_7 fr0_8
                  rcases e_8 : pr_sgn X 59 x_7.1 with f | k_8
                  · rw [e_8] at hmp_8
                    obtain ⟨hb16, hbne⟩ := hmp_8
                    have hbad : ¬ S_8 16 = 0 := by rw [hb16]; exact hbne
                    refine gx_aload_n C 5 dd_Mo_parseArc_54 (kk := ?_)
                    refine mo_get C fd_Mo_203 dd_Mo_parseArc_55 (kk := ?_)
                    skip
                    refine gx_if_ne C 82 dd_Mo_parseArc_58 (fun h58 => ?_) (fun h58 => absurd h58 hbad)
                    refine gx_vret C dd_Mo_parseArc_82 ?_
                    have hwt : pr_wt X x_5.1 = .inl f := by
                      unfold pr_wt
                      rw [pr_bdr e_6, pr_bdr e_7, pr_bdl e_8]
                    have hR : pr_ar X a k0 = .inl f := by
                      unfold pr_ar
                      rw [pr_bdr e_0, pr_bdr e_1, pr_bdr e_2, pr_bdr e_3, pr_bdr e_4, pr_bdr e_5, pr_bdl hwt]
                    refine ⟨rfl, F, L, S_8, rfl, mo_w_rf, fr_8, ?_⟩
                    rw [hR]
                    exact ⟨hb16, hbne⟩
                  · rw [e_8] at hmp_8
                    obtain ⟨h16_8, h15_8⟩ := hmp_8
                    have hr_8 := pr_sgn_r e_8
                    have hX_8 := mp_X fr0_8 hX_7
                    have hk_8 : k_8 ≤ 1601 := by omega
                    refine gx_aload_n C 5 dd_Mo_parseArc_54 (kk := ?_)
                    refine mo_get C fd_Mo_203 dd_Mo_parseArc_55 (kk := ?_)
                    refine gx_topi _ h16_8 ?_
                    refine gx_if_ne C 82 dd_Mo_parseArc_58 (fun h58 => absurd rfl h58) (fun h58 => ?_)
                    refine gx_aload_n C 5 dd_Mo_parseArc_61 (kk := ?_)
                    refine gx_iconst (v := nI 4) C dd_Mo_parseArc_62 (kk := ?_)
                    refine gx_iload_n C 4 dd_Mo_parseArc_63 (kk := ?_)
                    refine gx_iload_n C 3 dd_Mo_parseArc_64 (kk := ?_)
                    refine gx_iload_n C 2 dd_Mo_parseArc_65 (kk := ?_)
                    refine gx_iload C 1 dd_Mo_parseArc_66 (kk := ?_)
                    refine gx_lload C 0 dd_Mo_parseArc_68 (kk := ?_)
                    refine gx_callV C (ct_Mo_put (gx_l K) D dA ad h F L S_8 (s := 4) (f := x_0.2) (t := x_2.2) (i := x_4.2) (o := x_5.2) (x0 := x_7.2) (B := 1000000001) (a := a) (by decide) hA hok.2.1 (fun z hz => (hok.1.2.2.1 z hz).1) (fun z hz => (hok.1.2.2.1 z hz).2) (by decide) (by omega) (by omega) (by omega) (by omega) (by omega)) me_Mo_put ml_Mo_99 mn_Mo_put _ (gx_w_at (by decide) mo_h_43) rfl dd_Mo_parseArc_70 (kk := fun v w hq => ?_)
                    rcases hq with ⟨hr3, rfl, F3, L3, rfl, hM3, hf3⟩ | ⟨hr3, rfl, rfl⟩
                    · refine gx_if_ne C 82 dd_Mo_parseArc_73 (fun h73 => ?_) (fun h73 => absurd h73 (by decide))
                      refine gx_vret C dd_Mo_parseArc_82 ?_
                      have hwt : pr_wt X x_5.1 = .inr (k_8, x_7.2) := by
                        unfold pr_wt
                        rw [pr_bdr e_6, pr_bdr e_7, pr_bdr e_8]
                      have hR : pr_ar X a k0 = .inr (k_8, (am_n a, am_st a, am_en a, am_in (pr_k x_0.2 x_4.2 x_5.2 x_2.2) x_7.2 (am_ar a))) := by
                        unfold pr_ar
                        rw [pr_bdr e_0, pr_bdr e_1, pr_bdr e_2, pr_bdr e_3, pr_bdr e_4, pr_bdr e_5, pr_bdr hwt, if_pos hr3]
                      refine ⟨rfl, F3, L3, S_8, rfl, mo_w_fr hf3, fr_8, ?_⟩
                      rw [hR]
                      exact ⟨h16_8, h15_8, hM3⟩
                    · refine gx_if_ne C 82 dd_Mo_parseArc_73 (fun h73 => absurd rfl h73) (fun h73 => ?_)
                      refine gx_aload_n C 5 dd_Mo_parseArc_76 (kk := ?_)
                      refine gx_bipush (v := -2) C dd_Mo_parseArc_77 (kk := ?_)
                      refine gx_callV C (ct_Mo_fail (gx_l K) D dA ad h F L S_8 h16_8 (-2)) me_Mo_fail ml_Mo_206 mn_Mo_fail _ (gx_w_at (by decide) mo_h_43) rfl dd_Mo_parseArc_79 (kk := fun v w hq => ?_)
                      obtain ⟨rfl, Sf, rfl, hSf⟩ := hq
                      refine gx_vret C dd_Mo_parseArc_82 ?_
                      have hwt : pr_wt X x_5.1 = .inr (k_8, x_7.2) := by
                        unfold pr_wt
                        rw [pr_bdr e_6, pr_bdr e_7, pr_bdr e_8]
                      have hR : pr_ar X a k0 = .inl (-2) := by
                        unfold pr_ar
                        rw [pr_bdr e_0, pr_bdr e_1, pr_bdr e_2, pr_bdr e_3, pr_bdr e_4, pr_bdr e_5, pr_bdr hwt, if_neg (by rw [hr3]; decide)]
                      refine ⟨rfl, F, L, Sf, rfl, mo_w_rf, fun k a b => by rw [hSf, gm_un b]; exact fr_8 k a b, ?_⟩
                      rw [hR]
                      exact ⟨by rw [hSf, gm_us], by decide⟩
set_option maxRecDepth 100000 in
set_option maxHeartbeats 4000000 in
theorem ct_Mo_parseEndsS (l : Launch) (D : va_G) (dA : Nat → ClassId) (ad : Nat → Nat) (h : Nat → va_E) (F : mo_F) (L : mo_L) (S : Nat → Int32) {X : List Nat} {k0 : Nat} (hX : rs_X F S X) (h15 : S 15 = nI k0) (hk0 : k0 ≤ 1601) (h16 : S 16 = 0) {a : am_T} (hA : mo_is F L 4 a) (hok : am_ok a) (hk1 : k0 ≤ 1600) : gx_Ct l D dA yy_Mo_parseEnds cc_Mo_parseEnds 5 none 4 0 0 [.ref (ad 43), .int (nI 1)] (gx_w ad (mo_h dA ad h F L S)) (fun v w => v = none ∧ ∃ F2 L2 S2, w = (gx_w ad (mo_h dA ad h F2 L2 S2)) ∧ mo_w F L F2 L2 ∧ (∀ k, k ≠ 15 → k ≠ 16 → S2 k = S k) ∧ mp_i F2 L2 S2 (pr_st X a (k0 + 1))) := by
  refine gx_of (by decide) (Nat.le_of_ble_eq_true rfl) (fun K C _ _ => ?_)
  have hl16 := hX.2.2.1
  have hn16 := hok.1.1
  refine gx_aload_n C 0 dd_Mo_parseEnds_0 (kk := ?_)
  refine gx_dup C dd_Mo_parseEnds_1 (kk := ?_)
  refine mo_get C fd_Mo_197 dd_Mo_parseEnds_2 (kk := ?_)
  refine gx_topi _ h15 ?_
  refine gx_iconst (v := nI 1) C dd_Mo_parseEnds_5 (kk := ?_)
  refine gx_iadd C dd_Mo_parseEnds_6 (kk := ?_)
  refine gx_topi _ (nI_add _ _) ?_
  refine mo_put_15 C fw_Mo_197 dd_Mo_parseEnds_7 (kk := fun S7 hS7 => ?_)
  have fra : ∀ k, k ≠ 15 → k ≠ 16 → S7 k = S k := fun k a b => by rw [hS7, gm_un a]
  have hXa := mp_X fra hX
  have h15a : S7 15 = nI (k0 + 1) := by rw [hS7, gm_us]
  have h16a : S7 16 = 0 := by rw [hS7, gm_un (by decide)]; exact h16
  refine gx_aload_n C 0 dd_Mo_parseEnds_10 (kk := ?_)
  refine gx_callV C (ct_Mo_takeState (gx_l K) D dA ad h F L S7 hXa h15a (by omega) h16a (n := (am_n a)) hA.1 hok.1.1) me_Mo_takeState ml_Mo_222 mn_Mo_takeState _ (gx_w_at (by decide) mo_h_43) rfl dd_Mo_parseEnds_11 (kk := fun v w hq => ?_)
  obtain ⟨S_0, z_0, rfl, rfl, fr0_0, hmp_0⟩ := hq
  have fr_0 := mp_tr fra fr0_0
  rcases e_0 : pr_num X (am_n a) (k0 + 1) with f | x_0
  · rw [e_0] at hmp_0
    obtain ⟨hb16, hbne⟩ := hmp_0
    have hbad : ¬ S_0 16 = 0 := by rw [hb16]; exact hbne
    refine gx_istore_n C _ dd_Mo_parseEnds_14 (kk := ?_)
    refine gx_aload_n C 1 dd_Mo_parseEnds_15 (kk := ?_)
    refine mo_get C fd_Mo_203 dd_Mo_parseEnds_16 (kk := ?_)
    skip
    refine gx_if_ne C 58 dd_Mo_parseEnds_19 (fun h19 => ?_) (fun h19 => absurd h19 hbad)
    refine gx_aload_n C 1 dd_Mo_parseEnds_58 (kk := ?_)
    refine gx_bipush (v := nI 47) C dd_Mo_parseEnds_59 (kk := ?_)
    refine gx_callV C (ct_Mo_takeIfF (gx_l K) D dA ad h F L S_0 hbad _) me_Mo_takeIf ml_Mo_225 mn_Mo_takeIf _ (gx_w_at (by decide) mo_h_43) rfl dd_Mo_parseEnds_61 (kk := fun v w hq => ?_)
    obtain ⟨rfl, rfl⟩ := hq
    skip
    · refine gx_aload_n C 1 dd_Mo_parseEnds_64 (kk := ?_)
      refine gx_ldc2 C dd_Mo_parseEnds_65 kc_Mo_85 (kk := ?_)
      refine gx_callV C (ct_Mo_takeNumberF (gx_l K) D dA ad h F L S_0 hbad _) me_Mo_takeNumber ml_Mo_215 mn_Mo_takeNumber _ (gx_w_at (by decide) mo_h_43) rfl dd_Mo_parseEnds_68 (kk := fun v w hq => ?_)
      obtain ⟨rfl, rfl⟩ := hq
      skip
      · refine gx_lstore_n C _ dd_Mo_parseEnds_71 (kk := ?_)
        refine gx_aload_n C 2 dd_Mo_parseEnds_72 (kk := ?_)
        refine gx_bipush (v := nI 59) C dd_Mo_parseEnds_73 (kk := ?_)
        refine gx_callV C (ct_Mo_takeIfF (gx_l K) D dA ad h F L S_0 hbad _) me_Mo_takeIf ml_Mo_225 mn_Mo_takeIf _ (gx_w_at (by decide) mo_h_43) rfl dd_Mo_parseEnds_75 (kk := fun v w hq => ?_)
        obtain ⟨rfl, rfl⟩ := hq
        skip
        · refine gx_aload_n C 2 dd_Mo_parseEnds_78 (kk := ?_)
          refine mo_get C fd_Mo_203 dd_Mo_parseEnds_79 (kk := ?_)
          skip
          refine gx_if_ne C 106 dd_Mo_parseEnds_82 (fun h82 => ?_) (fun h82 => absurd h82 hbad)
          refine gx_aload_n C 2 dd_Mo_parseEnds_106 (kk := ?_)
          refine mo_get C fd_Mo_203 dd_Mo_parseEnds_107 (kk := ?_)
          skip
          refine gx_if_ne C 123 dd_Mo_parseEnds_110 (fun h110 => ?_) (fun h110 => absurd h110 hbad)
          refine gx_vret C dd_Mo_parseEnds_123 ?_
          have hR : pr_st X a (k0 + 1) = .inl f := by
            unfold pr_st
            rw [pr_bdl e_0]
          refine ⟨rfl, F, L, S_0, rfl, mo_w_rf, fr_0, ?_⟩
          rw [hR]
          exact ⟨hb16, hbne⟩
  · rw [e_0] at hmp_0
    obtain ⟨h16_0, h15_0, rfl⟩ := hmp_0
    have hr_0 := pr_num_r e_0
    have hX_0 := mp_X fr0_0 hXa
    have hk_0 : x_0.1 ≤ 1601 := by omega
    refine gx_istore_n C _ dd_Mo_parseEnds_14 (kk := ?_)
    refine gx_aload_n C 1 dd_Mo_parseEnds_15 (kk := ?_)
    refine mo_get C fd_Mo_203 dd_Mo_parseEnds_16 (kk := ?_)
    refine gx_topi _ h16_0 ?_
    refine gx_if_ne C 58 dd_Mo_parseEnds_19 (fun h19 => absurd rfl h19) (fun h19 => ?_)
    refine gx_iload_n C 2 dd_Mo_parseEnds_22 (kk := ?_)
    refine gx_if_eq C 38 dd_Mo_parseEnds_23 (fun h23 => absurd h23 (by decide)) (fun h23 => ?_)
    have hsq := hA.2.1
    rcases hst : am_st a with _ | xa
    · rw [hst] at hsq
      refine gx_aload_n C 1 dd_Mo_parseEnds_26 (kk := ?_)
      refine mo_get C fd_Mo_13 dd_Mo_parseEnds_27 (kk := ?_)
      refine gx_iconst (v := nI 4) C dd_Mo_parseEnds_30 (kk := ?_)
      refine mo_l45 C dd_Mo_parseEnds_31 (by omega) (kk := ?_)
      refine gx_topi _ hsq.1 ?_
      refine gx_if_lt C 58 dd_Mo_parseEnds_32 (fun h32 => ?_) (fun h32 => absurd (by decide) h32)
      refine gx_aload_n C 1 dd_Mo_parseEnds_58 (kk := ?_)
      refine gx_bipush (v := nI 47) C dd_Mo_parseEnds_59 (kk := ?_)
      refine gx_callV C (ct_Mo_takeIf (gx_l K) D dA ad h F L S_0 hX_0 h15_0 hk_0 h16_0 (c := 47) (by decide) (by decide)) me_Mo_takeIf ml_Mo_225 mn_Mo_takeIf _ (gx_w_at (by decide) mo_h_43) rfl dd_Mo_parseEnds_61 (kk := fun v w hq => ?_)
      obtain ⟨rfl, S_1, rfl, fr0_1, hmp_1⟩ := hq
      have fr_1 := mp_tr fr_0 fr0_1
      rcases e_1 : pr_sgn X 47 x_0.1 with f | k_1
      · rw [e_1] at hmp_1
        obtain ⟨hb16, hbne⟩ := hmp_1
        have hbad : ¬ S_1 16 = 0 := by rw [hb16]; exact hbne
        refine gx_aload_n C 1 dd_Mo_parseEnds_64 (kk := ?_)
        refine gx_ldc2 C dd_Mo_parseEnds_65 kc_Mo_85 (kk := ?_)
        refine gx_callV C (ct_Mo_takeNumberF (gx_l K) D dA ad h F L S_1 hbad _) me_Mo_takeNumber ml_Mo_215 mn_Mo_takeNumber _ (gx_w_at (by decide) mo_h_43) rfl dd_Mo_parseEnds_68 (kk := fun v w hq => ?_)
        obtain ⟨rfl, rfl⟩ := hq
        skip
        · refine gx_lstore_n C _ dd_Mo_parseEnds_71 (kk := ?_)
          refine gx_aload_n C 2 dd_Mo_parseEnds_72 (kk := ?_)
          refine gx_bipush (v := nI 59) C dd_Mo_parseEnds_73 (kk := ?_)
          refine gx_callV C (ct_Mo_takeIfF (gx_l K) D dA ad h F L S_1 hbad _) me_Mo_takeIf ml_Mo_225 mn_Mo_takeIf _ (gx_w_at (by decide) mo_h_43) rfl dd_Mo_parseEnds_75 (kk := fun v w hq => ?_)
          obtain ⟨rfl, rfl⟩ := hq
          skip
          · refine gx_aload_n C 2 dd_Mo_parseEnds_78 (kk := ?_)
            refine mo_get C fd_Mo_203 dd_Mo_parseEnds_79 (kk := ?_)
            skip
            refine gx_if_ne C 106 dd_Mo_parseEnds_82 (fun h82 => ?_) (fun h82 => absurd h82 hbad)
            refine gx_aload_n C 2 dd_Mo_parseEnds_106 (kk := ?_)
            refine mo_get C fd_Mo_203 dd_Mo_parseEnds_107 (kk := ?_)
            skip
            refine gx_if_ne C 123 dd_Mo_parseEnds_110 (fun h110 => ?_) (fun h110 => absurd h110 hbad)
            refine gx_vret C dd_Mo_parseEnds_123 ?_
            have hwt : pr_wt X x_0.1 = .inl f := by
              unfold pr_wt
              rw [pr_bdl e_1]
            have hR : pr_st X a (k0 + 1) = .inl f := by
              unfold pr_st
              rw [pr_bdr e_0, if_neg (by rw [hst]; decide), pr_bdl hwt]
            refine ⟨rfl, F, L, S_1, rfl, mo_w_rf, fr_1, ?_⟩
            rw [hR]
            exact ⟨hb16, hbne⟩
      · rw [e_1] at hmp_1
        obtain ⟨h16_1, h15_1⟩ := hmp_1
        have hr_1 := pr_sgn_r e_1
        have hX_1 := mp_X fr0_1 hX_0
        have hk_1 : k_1 ≤ 1601 := by omega
        refine gx_aload_n C 1 dd_Mo_parseEnds_64 (kk := ?_)
        refine gx_ldc2 C dd_Mo_parseEnds_65 kc_Mo_85 (kk := ?_)
        refine gx_callV C (ct_Mo_takeNumber (gx_l K) D dA ad h F L S_1 hX_1 h15_1 hk_1 h16_1 (lim := 1000000001) (most := 1000000000) pr_lim9) me_Mo_takeNumber ml_Mo_215 mn_Mo_takeNumber _ (gx_w_at (by decide) mo_h_43) rfl dd_Mo_parseEnds_68 (kk := fun v w hq => ?_)
        obtain ⟨S_2, z_2, rfl, rfl, fr0_2, hmp_2⟩ := hq
        have fr_2 := mp_tr fr_1 fr0_2
        rcases e_2 : pr_num X 1000000001 k_1 with f | x_2
        · rw [e_2] at hmp_2
          obtain ⟨hb16, hbne⟩ := hmp_2
          have hbad : ¬ S_2 16 = 0 := by rw [hb16]; exact hbne
          refine gx_lstore_n C _ dd_Mo_parseEnds_71 (kk := ?_)
          refine gx_aload_n C 2 dd_Mo_parseEnds_72 (kk := ?_)
          refine gx_bipush (v := nI 59) C dd_Mo_parseEnds_73 (kk := ?_)
          refine gx_callV C (ct_Mo_takeIfF (gx_l K) D dA ad h F L S_2 hbad _) me_Mo_takeIf ml_Mo_225 mn_Mo_takeIf _ (gx_w_at (by decide) mo_h_43) rfl dd_Mo_parseEnds_75 (kk := fun v w hq => ?_)
          obtain ⟨rfl, rfl⟩ := hq
          skip
          · refine gx_aload_n C 2 dd_Mo_parseEnds_78 (kk := ?_)
            refine mo_get C fd_Mo_203 dd_Mo_parseEnds_79 (kk := ?_)
            skip
            refine gx_if_ne C 106 dd_Mo_parseEnds_82 (fun h82 => ?_) (fun h82 => absurd h82 hbad)
            refine gx_aload_n C 2 dd_Mo_parseEnds_106 (kk := ?_)
            refine mo_get C fd_Mo_203 dd_Mo_parseEnds_107 (kk := ?_)
            skip
            refine gx_if_ne C 123 dd_Mo_parseEnds_110 (fun h110 => ?_) (fun h110 => absurd h110 hbad)
            refine gx_vret C dd_Mo_parseEnds_123 ?_
            have hwt : pr_wt X x_0.1 = .inl f := by
              unfold pr_wt
              rw [pr_bdr e_1, pr_bdl e_2]
            have hR : pr_st X a (k0 + 1) = .inl f := by
              unfold pr_st
              rw [pr_bdr e_0, if_neg (by rw [hst]; decide), pr_bdl hwt]
            refine ⟨rfl, F, L, S_2, rfl, mo_w_rf, fr_2, ?_⟩
            rw [hR]
            exact ⟨hb16, hbne⟩
        · rw [e_2] at hmp_2
          obtain ⟨h16_2, h15_2, rfl⟩ := hmp_2
          have hr_2 := pr_num_r e_2
          have hX_2 := mp_X fr0_2 hX_1
          have hk_2 : x_2.1 ≤ 1601 := by omega
          refine gx_lstore_n C _ dd_Mo_parseEnds_71 (kk := ?_)
          refine gx_aload_n C 2 dd_Mo_parseEnds_72 (kk := ?_)
          refine gx_bipush (v := nI 59) C dd_Mo_parseEnds_73 (kk := ?_)
          refine gx_callV C (ct_Mo_takeIf (gx_l K) D dA ad h F L S_2 hX_2 h15_2 hk_2 h16_2 (c := 59) (by decide) (by decide)) me_Mo_takeIf ml_Mo_225 mn_Mo_takeIf _ (gx_w_at (by decide) mo_h_43) rfl dd_Mo_parseEnds_75 (kk := fun v w hq => ?_)
          obtain ⟨rfl, S_3, rfl, fr0_3, hmp_3⟩ := hq
          have fr_3 := mp_tr fr_2 fr0_3
          rcases e_3 : pr_sgn X 59 x_2.1 with f | k_3
          · rw [e_3] at hmp_3
            obtain ⟨hb16, hbne⟩ := hmp_3
            have hbad : ¬ S_3 16 = 0 := by rw [hb16]; exact hbne
            refine gx_aload_n C 2 dd_Mo_parseEnds_78 (kk := ?_)
            refine mo_get C fd_Mo_203 dd_Mo_parseEnds_79 (kk := ?_)
            skip
            refine gx_if_ne C 106 dd_Mo_parseEnds_82 (fun h82 => ?_) (fun h82 => absurd h82 hbad)
            refine gx_aload_n C 2 dd_Mo_parseEnds_106 (kk := ?_)
            refine mo_get C fd_Mo_203 dd_Mo_parseEnds_107 (kk := ?_)
            skip
            refine gx_if_ne C 123 dd_Mo_parseEnds_110 (fun h110 => ?_) (fun h110 => absurd h110 hbad)
            refine gx_vret C dd_Mo_parseEnds_123 ?_
            have hwt : pr_wt X x_0.1 = .inl f := by
              unfold pr_wt
              rw [pr_bdr e_1, pr_bdr e_2, pr_bdl e_3]
            have hR : pr_st X a (k0 + 1) = .inl f := by
              unfold pr_st
              rw [pr_bdr e_0, if_neg (by rw [hst]; decide), pr_bdl hwt]
            refine ⟨rfl, F, L, S_3, rfl, mo_w_rf, fr_3, ?_⟩
            rw [hR]
            exact ⟨hb16, hbne⟩
          · rw [e_3] at hmp_3
            obtain ⟨h16_3, h15_3⟩ := hmp_3
            have hr_3 := pr_sgn_r e_3
            have hX_3 := mp_X fr0_3 hX_2
            have hk_3 : k_3 ≤ 1601 := by omega
            refine gx_aload_n C 2 dd_Mo_parseEnds_78 (kk := ?_)
            refine mo_get C fd_Mo_203 dd_Mo_parseEnds_79 (kk := ?_)
            refine gx_topi _ h16_3 ?_
            refine gx_if_ne C 106 dd_Mo_parseEnds_82 (fun h82 => absurd rfl h82) (fun h82 => ?_)
            refine gx_iload_n C 3 dd_Mo_parseEnds_85 (kk := ?_)
            refine gx_if_eq C 106 dd_Mo_parseEnds_86 (fun h86 => absurd h86 (by decide)) (fun h86 => ?_)
            refine gx_aload_n C 2 dd_Mo_parseEnds_89 (kk := ?_)
            refine mo_get C fd_Mo_13 dd_Mo_parseEnds_90 (kk := ?_)
            refine gx_iconst (v := nI 4) C dd_Mo_parseEnds_93 (kk := ?_)
            refine gx_iload_n C 1 dd_Mo_parseEnds_94 (kk := ?_)
            refine mo_s45 C dd_Mo_parseEnds_95 (by omega) (kk := fun F95 hF95 => ?_)
            refine gx_aload_n C 2 dd_Mo_parseEnds_96 (kk := ?_)
            refine mo_get C fd_Mo_16 dd_Mo_parseEnds_97 (kk := ?_)
            refine gx_iconst (v := nI 4) C dd_Mo_parseEnds_100 (kk := ?_)
            refine gx_lload_n C 0 dd_Mo_parseEnds_101 (kk := ?_)
            refine mo_s46 C dd_Mo_parseEnds_102 (by omega) (kk := fun L102 hL102 => ?_)
            refine gx_goto C 123 dd_Mo_parseEnds_103 (kk := ?_)
            refine gx_vret C dd_Mo_parseEnds_123 ?_
            have hwt : pr_wt X x_0.1 = .inr (k_3, x_2.2) := by
              unfold pr_wt
              rw [pr_bdr e_1, pr_bdr e_2, pr_bdr e_3]
            have hR : pr_st X a (k0 + 1) = .inr (k_3, (am_n a, some (x_0.2, x_2.2), am_en a, am_ar a)) := by
              unfold pr_st
              rw [pr_bdr e_0, if_neg (by rw [hst]; decide), pr_bdr hwt]
            refine ⟨rfl, F95, L102, S_3, rfl, mo_w_fr (mo_fr_tr (mo_fr_45 hF95) (mo_fr_46 hL102)), fr_3, ?_⟩
            rw [hR]
            exact ⟨h16_3, h15_3, mo_is_st hF95 hL102 rfl hA⟩
    · rw [hst] at hsq
      have hxab := hok.1.2.2.2.2 xa hst
      refine gx_aload_n C 1 dd_Mo_parseEnds_26 (kk := ?_)
      refine mo_get C fd_Mo_13 dd_Mo_parseEnds_27 (kk := ?_)
      refine gx_iconst (v := nI 4) C dd_Mo_parseEnds_30 (kk := ?_)
      refine mo_l45 C dd_Mo_parseEnds_31 (by omega) (kk := ?_)
      refine gx_topi _ hsq.1 ?_
      refine gx_if_lt C 58 dd_Mo_parseEnds_32 (fun h32 => absurd h32 (nI_pos (by omega))) (fun h32 => ?_)
      refine gx_goto C 52 dd_Mo_parseEnds_35 (kk := ?_)
      refine gx_aload_n C 1 dd_Mo_parseEnds_52 (kk := ?_)
      refine gx_bipush (v := -6) C dd_Mo_parseEnds_53 (kk := ?_)
      refine gx_callV C (ct_Mo_fail (gx_l K) D dA ad h F L S_0 h16_0 (-6)) me_Mo_fail ml_Mo_206 mn_Mo_fail _ (gx_w_at (by decide) mo_h_43) rfl dd_Mo_parseEnds_55 (kk := fun v w hq => ?_)
      obtain ⟨rfl, S_T, rfl, hS_T⟩ := hq
      have hb16 : S_T 16 = -6 := by rw [hS_T, gm_us]
      have hbne : (-6 : Int32) ≠ 0 := by decide
      have hbad : ¬ S_T 16 = 0 := by rw [hb16]; exact hbne
      have fr_T : ∀ k, k ≠ 15 → k ≠ 16 → S_T k = S k := fun k a b => by rw [hS_T, gm_un b]; exact fr_0 k a b
      refine gx_aload_n C 1 dd_Mo_parseEnds_58 (kk := ?_)
      refine gx_bipush (v := nI 47) C dd_Mo_parseEnds_59 (kk := ?_)
      refine gx_callV C (ct_Mo_takeIfF (gx_l K) D dA ad h F L S_T hbad _) me_Mo_takeIf ml_Mo_225 mn_Mo_takeIf _ (gx_w_at (by decide) mo_h_43) rfl dd_Mo_parseEnds_61 (kk := fun v w hq => ?_)
      obtain ⟨rfl, rfl⟩ := hq
      skip
      · refine gx_aload_n C 1 dd_Mo_parseEnds_64 (kk := ?_)
        refine gx_ldc2 C dd_Mo_parseEnds_65 kc_Mo_85 (kk := ?_)
        refine gx_callV C (ct_Mo_takeNumberF (gx_l K) D dA ad h F L S_T hbad _) me_Mo_takeNumber ml_Mo_215 mn_Mo_takeNumber _ (gx_w_at (by decide) mo_h_43) rfl dd_Mo_parseEnds_68 (kk := fun v w hq => ?_)
        obtain ⟨rfl, rfl⟩ := hq
        skip
        · refine gx_lstore_n C _ dd_Mo_parseEnds_71 (kk := ?_)
          refine gx_aload_n C 2 dd_Mo_parseEnds_72 (kk := ?_)
          refine gx_bipush (v := nI 59) C dd_Mo_parseEnds_73 (kk := ?_)
          refine gx_callV C (ct_Mo_takeIfF (gx_l K) D dA ad h F L S_T hbad _) me_Mo_takeIf ml_Mo_225 mn_Mo_takeIf _ (gx_w_at (by decide) mo_h_43) rfl dd_Mo_parseEnds_75 (kk := fun v w hq => ?_)
          obtain ⟨rfl, rfl⟩ := hq
          skip
          · refine gx_aload_n C 2 dd_Mo_parseEnds_78 (kk := ?_)
            refine mo_get C fd_Mo_203 dd_Mo_parseEnds_79 (kk := ?_)
            skip
            refine gx_if_ne C 106 dd_Mo_parseEnds_82 (fun h82 => ?_) (fun h82 => absurd h82 hbad)
            refine gx_aload_n C 2 dd_Mo_parseEnds_106 (kk := ?_)
            refine mo_get C fd_Mo_203 dd_Mo_parseEnds_107 (kk := ?_)
            skip
            refine gx_if_ne C 123 dd_Mo_parseEnds_110 (fun h110 => ?_) (fun h110 => absurd h110 hbad)
            refine gx_vret C dd_Mo_parseEnds_123 ?_
            have hR : pr_st X a (k0 + 1) = .inl (-6) := by
              unfold pr_st
              rw [pr_bdr e_0, if_pos (by rw [hst]; rfl)]
            refine ⟨rfl, F, L, S_T, rfl, mo_w_rf, fr_T, ?_⟩
            rw [hR]
            exact ⟨hb16, hbne⟩
set_option maxRecDepth 100000 in
set_option maxHeartbeats 4000000 in
theorem ct_Mo_parseEndsE (l : Launch) (D : va_G) (dA : Nat → ClassId) (ad : Nat → Nat) (h : Nat → va_E) (F : mo_F) (L : mo_L) (S : Nat → Int32) {X : List Nat} {k0 : Nat} (hX : rs_X F S X) (h15 : S 15 = nI k0) (hk0 : k0 ≤ 1601) (h16 : S 16 = 0) {a : am_T} (hA : mo_is F L 4 a) (hok : am_ok a) (hk1 : k0 ≤ 1600) : gx_Ct l D dA yy_Mo_parseEnds cc_Mo_parseEnds 5 none 4 0 0 [.ref (ad 43), .int (nI 0)] (gx_w ad (mo_h dA ad h F L S)) (fun v w => v = none ∧ ∃ F2 L2 S2, w = (gx_w ad (mo_h dA ad h F2 L2 S2)) ∧ mo_w F L F2 L2 ∧ (∀ k, k ≠ 15 → k ≠ 16 → S2 k = S k) ∧ mp_i F2 L2 S2 (pr_en X a (k0 + 1))) := by
  refine gx_of (by decide) (Nat.le_of_ble_eq_true rfl) (fun K C _ _ => ?_)
  have hl16 := hX.2.2.1
  have hn16 := hok.1.1
  refine gx_aload_n C 0 dd_Mo_parseEnds_0 (kk := ?_)
  refine gx_dup C dd_Mo_parseEnds_1 (kk := ?_)
  refine mo_get C fd_Mo_197 dd_Mo_parseEnds_2 (kk := ?_)
  refine gx_topi _ h15 ?_
  refine gx_iconst (v := nI 1) C dd_Mo_parseEnds_5 (kk := ?_)
  refine gx_iadd C dd_Mo_parseEnds_6 (kk := ?_)
  refine gx_topi _ (nI_add _ _) ?_
  refine mo_put_15 C fw_Mo_197 dd_Mo_parseEnds_7 (kk := fun S7 hS7 => ?_)
  have fra : ∀ k, k ≠ 15 → k ≠ 16 → S7 k = S k := fun k a b => by rw [hS7, gm_un a]
  have hXa := mp_X fra hX
  have h15a : S7 15 = nI (k0 + 1) := by rw [hS7, gm_us]
  have h16a : S7 16 = 0 := by rw [hS7, gm_un (by decide)]; exact h16
  refine gx_aload_n C 0 dd_Mo_parseEnds_10 (kk := ?_)
  refine gx_callV C (ct_Mo_takeState (gx_l K) D dA ad h F L S7 hXa h15a (by omega) h16a (n := (am_n a)) hA.1 hok.1.1) me_Mo_takeState ml_Mo_222 mn_Mo_takeState _ (gx_w_at (by decide) mo_h_43) rfl dd_Mo_parseEnds_11 (kk := fun v w hq => ?_)
  obtain ⟨S_0, z_0, rfl, rfl, fr0_0, hmp_0⟩ := hq
  have fr_0 := mp_tr fra fr0_0
  rcases e_0 : pr_num X (am_n a) (k0 + 1) with f | x_0
  · rw [e_0] at hmp_0
    obtain ⟨hb16, hbne⟩ := hmp_0
    have hbad : ¬ S_0 16 = 0 := by rw [hb16]; exact hbne
    refine gx_istore_n C _ dd_Mo_parseEnds_14 (kk := ?_)
    refine gx_aload_n C 1 dd_Mo_parseEnds_15 (kk := ?_)
    refine mo_get C fd_Mo_203 dd_Mo_parseEnds_16 (kk := ?_)
    skip
    refine gx_if_ne C 58 dd_Mo_parseEnds_19 (fun h19 => ?_) (fun h19 => absurd h19 hbad)
    refine gx_aload_n C 1 dd_Mo_parseEnds_58 (kk := ?_)
    refine gx_bipush (v := nI 47) C dd_Mo_parseEnds_59 (kk := ?_)
    refine gx_callV C (ct_Mo_takeIfF (gx_l K) D dA ad h F L S_0 hbad _) me_Mo_takeIf ml_Mo_225 mn_Mo_takeIf _ (gx_w_at (by decide) mo_h_43) rfl dd_Mo_parseEnds_61 (kk := fun v w hq => ?_)
    obtain ⟨rfl, rfl⟩ := hq
    skip
    · refine gx_aload_n C 1 dd_Mo_parseEnds_64 (kk := ?_)
      refine gx_ldc2 C dd_Mo_parseEnds_65 kc_Mo_85 (kk := ?_)
      refine gx_callV C (ct_Mo_takeNumberF (gx_l K) D dA ad h F L S_0 hbad _) me_Mo_takeNumber ml_Mo_215 mn_Mo_takeNumber _ (gx_w_at (by decide) mo_h_43) rfl dd_Mo_parseEnds_68 (kk := fun v w hq => ?_)
      obtain ⟨rfl, rfl⟩ := hq
      skip
      · refine gx_lstore_n C _ dd_Mo_parseEnds_71 (kk := ?_)
        refine gx_aload_n C 2 dd_Mo_parseEnds_72 (kk := ?_)
        refine gx_bipush (v := nI 59) C dd_Mo_parseEnds_73 (kk := ?_)
        refine gx_callV C (ct_Mo_takeIfF (gx_l K) D dA ad h F L S_0 hbad _) me_Mo_takeIf ml_Mo_225 mn_Mo_takeIf _ (gx_w_at (by decide) mo_h_43) rfl dd_Mo_parseEnds_75 (kk := fun v w hq => ?_)
        obtain ⟨rfl, rfl⟩ := hq
        skip
        · refine gx_aload_n C 2 dd_Mo_parseEnds_78 (kk := ?_)
          refine mo_get C fd_Mo_203 dd_Mo_parseEnds_79 (kk := ?_)
          skip
          refine gx_if_ne C 106 dd_Mo_parseEnds_82 (fun h82 => ?_) (fun h82 => absurd h82 hbad)
          refine gx_aload_n C 2 dd_Mo_parseEnds_106 (kk := ?_)
          refine mo_get C fd_Mo_203 dd_Mo_parseEnds_107 (kk := ?_)
          skip
          refine gx_if_ne C 123 dd_Mo_parseEnds_110 (fun h110 => ?_) (fun h110 => absurd h110 hbad)
          refine gx_vret C dd_Mo_parseEnds_123 ?_
          have hR : pr_en X a (k0 + 1) = .inl f := by
            unfold pr_en
            rw [pr_bdl e_0]
          refine ⟨rfl, F, L, S_0, rfl, mo_w_rf, fr_0, ?_⟩
          rw [hR]
          exact ⟨hb16, hbne⟩
  · rw [e_0] at hmp_0
    obtain ⟨h16_0, h15_0, rfl⟩ := hmp_0
    have hr_0 := pr_num_r e_0
    have hX_0 := mp_X fr0_0 hXa
    have hk_0 : x_0.1 ≤ 1601 := by omega
    refine gx_istore_n C _ dd_Mo_parseEnds_14 (kk := ?_)
    refine gx_aload_n C 1 dd_Mo_parseEnds_15 (kk := ?_)
    refine mo_get C fd_Mo_203 dd_Mo_parseEnds_16 (kk := ?_)
    refine gx_topi _ h16_0 ?_
    refine gx_if_ne C 58 dd_Mo_parseEnds_19 (fun h19 => absurd rfl h19) (fun h19 => ?_)
    refine gx_iload_n C 2 dd_Mo_parseEnds_22 (kk := ?_)
    refine gx_if_eq C 38 dd_Mo_parseEnds_23 (fun h23 => ?_) (fun h23 => absurd rfl h23)
    have heq0 := hA.2.2.1 x_0.2 (by omega)
    rcases hen : am_en a x_0.2 with _ | e
    · rw [hen] at heq0
      refine gx_aload_n C 1 dd_Mo_parseEnds_38 (kk := ?_)
      refine mo_get C fd_Mo_20 dd_Mo_parseEnds_39 (kk := ?_)
      refine gx_bipush (v := nI 64) C dd_Mo_parseEnds_42 (kk := ?_)
      refine gx_iload_n C 0 dd_Mo_parseEnds_44 (kk := ?_)
      refine gx_iadd C dd_Mo_parseEnds_45 (kk := ?_)
      refine gx_topi _ (nI_add _ _) ?_
      refine mo_l47 C dd_Mo_parseEnds_46 (by omega) (kk := ?_)
      refine gx_topl _ heq0 ?_
      refine gx_lconst (v := lN 0) C dd_Mo_parseEnds_47 (kk := ?_)
      refine gx_lcmp C dd_Mo_parseEnds_48 (kk := ?_)
      refine gx_if_lt C 58 dd_Mo_parseEnds_49 (fun h49 => ?_) (fun h49 => absurd (by decide) h49)
      refine gx_aload_n C 1 dd_Mo_parseEnds_58 (kk := ?_)
      refine gx_bipush (v := nI 47) C dd_Mo_parseEnds_59 (kk := ?_)
      refine gx_callV C (ct_Mo_takeIf (gx_l K) D dA ad h F L S_0 hX_0 h15_0 hk_0 h16_0 (c := 47) (by decide) (by decide)) me_Mo_takeIf ml_Mo_225 mn_Mo_takeIf _ (gx_w_at (by decide) mo_h_43) rfl dd_Mo_parseEnds_61 (kk := fun v w hq => ?_)
      obtain ⟨rfl, S_1, rfl, fr0_1, hmp_1⟩ := hq
      have fr_1 := mp_tr fr_0 fr0_1
      rcases e_1 : pr_sgn X 47 x_0.1 with f | k_1
      · rw [e_1] at hmp_1
        obtain ⟨hb16, hbne⟩ := hmp_1
        have hbad : ¬ S_1 16 = 0 := by rw [hb16]; exact hbne
        refine gx_aload_n C 1 dd_Mo_parseEnds_64 (kk := ?_)
        refine gx_ldc2 C dd_Mo_parseEnds_65 kc_Mo_85 (kk := ?_)
        refine gx_callV C (ct_Mo_takeNumberF (gx_l K) D dA ad h F L S_1 hbad _) me_Mo_takeNumber ml_Mo_215 mn_Mo_takeNumber _ (gx_w_at (by decide) mo_h_43) rfl dd_Mo_parseEnds_68 (kk := fun v w hq => ?_)
        obtain ⟨rfl, rfl⟩ := hq
        skip
        · refine gx_lstore_n C _ dd_Mo_parseEnds_71 (kk := ?_)
          refine gx_aload_n C 2 dd_Mo_parseEnds_72 (kk := ?_)
          refine gx_bipush (v := nI 59) C dd_Mo_parseEnds_73 (kk := ?_)
          refine gx_callV C (ct_Mo_takeIfF (gx_l K) D dA ad h F L S_1 hbad _) me_Mo_takeIf ml_Mo_225 mn_Mo_takeIf _ (gx_w_at (by decide) mo_h_43) rfl dd_Mo_parseEnds_75 (kk := fun v w hq => ?_)
          obtain ⟨rfl, rfl⟩ := hq
          skip
          · refine gx_aload_n C 2 dd_Mo_parseEnds_78 (kk := ?_)
            refine mo_get C fd_Mo_203 dd_Mo_parseEnds_79 (kk := ?_)
            skip
            refine gx_if_ne C 106 dd_Mo_parseEnds_82 (fun h82 => ?_) (fun h82 => absurd h82 hbad)
            refine gx_aload_n C 2 dd_Mo_parseEnds_106 (kk := ?_)
            refine mo_get C fd_Mo_203 dd_Mo_parseEnds_107 (kk := ?_)
            skip
            refine gx_if_ne C 123 dd_Mo_parseEnds_110 (fun h110 => ?_) (fun h110 => absurd h110 hbad)
            refine gx_vret C dd_Mo_parseEnds_123 ?_
            have hwt : pr_wt X x_0.1 = .inl f := by
              unfold pr_wt
              rw [pr_bdl e_1]
            have hR : pr_en X a (k0 + 1) = .inl f := by
              unfold pr_en
              rw [pr_bdr e_0, if_neg (by rw [hen]; decide), pr_bdl hwt]
            refine ⟨rfl, F, L, S_1, rfl, mo_w_rf, fr_1, ?_⟩
            rw [hR]
            exact ⟨hb16, hbne⟩
      · rw [e_1] at hmp_1
        obtain ⟨h16_1, h15_1⟩ := hmp_1
        have hr_1 := pr_sgn_r e_1
        have hX_1 := mp_X fr0_1 hX_0
        have hk_1 : k_1 ≤ 1601 := by omega
        refine gx_aload_n C 1 dd_Mo_parseEnds_64 (kk := ?_)
        refine gx_ldc2 C dd_Mo_parseEnds_65 kc_Mo_85 (kk := ?_)
        refine gx_callV C (ct_Mo_takeNumber (gx_l K) D dA ad h F L S_1 hX_1 h15_1 hk_1 h16_1 (lim := 1000000001) (most := 1000000000) pr_lim9) me_Mo_takeNumber ml_Mo_215 mn_Mo_takeNumber _ (gx_w_at (by decide) mo_h_43) rfl dd_Mo_parseEnds_68 (kk := fun v w hq => ?_)
        obtain ⟨S_2, z_2, rfl, rfl, fr0_2, hmp_2⟩ := hq
        have fr_2 := mp_tr fr_1 fr0_2
        rcases e_2 : pr_num X 1000000001 k_1 with f | x_2
        · rw [e_2] at hmp_2
          obtain ⟨hb16, hbne⟩ := hmp_2
          have hbad : ¬ S_2 16 = 0 := by rw [hb16]; exact hbne
          refine gx_lstore_n C _ dd_Mo_parseEnds_71 (kk := ?_)
          refine gx_aload_n C 2 dd_Mo_parseEnds_72 (kk := ?_)
          refine gx_bipush (v := nI 59) C dd_Mo_parseEnds_73 (kk := ?_)
          refine gx_callV C (ct_Mo_takeIfF (gx_l K) D dA ad h F L S_2 hbad _) me_Mo_takeIf ml_Mo_225 mn_Mo_takeIf _ (gx_w_at (by decide) mo_h_43) rfl dd_Mo_parseEnds_75 (kk := fun v w hq => ?_)
          obtain ⟨rfl, rfl⟩ := hq
          skip
          · refine gx_aload_n C 2 dd_Mo_parseEnds_78 (kk := ?_)
            refine mo_get C fd_Mo_203 dd_Mo_parseEnds_79 (kk := ?_)
            skip
            refine gx_if_ne C 106 dd_Mo_parseEnds_82 (fun h82 => ?_) (fun h82 => absurd h82 hbad)
            refine gx_aload_n C 2 dd_Mo_parseEnds_106 (kk := ?_)
            refine mo_get C fd_Mo_203 dd_Mo_parseEnds_107 (kk := ?_)
            skip
            refine gx_if_ne C 123 dd_Mo_parseEnds_110 (fun h110 => ?_) (fun h110 => absurd h110 hbad)
            refine gx_vret C dd_Mo_parseEnds_123 ?_
            have hwt : pr_wt X x_0.1 = .inl f := by
              unfold pr_wt
              rw [pr_bdr e_1, pr_bdl e_2]
            have hR : pr_en X a (k0 + 1) = .inl f := by
              unfold pr_en
              rw [pr_bdr e_0, if_neg (by rw [hen]; decide), pr_bdl hwt]
            refine ⟨rfl, F, L, S_2, rfl, mo_w_rf, fr_2, ?_⟩
            rw [hR]
            exact ⟨hb16, hbne⟩
        · rw [e_2] at hmp_2
          obtain ⟨h16_2, h15_2, rfl⟩ := hmp_2
          have hr_2 := pr_num_r e_2
          have hX_2 := mp_X fr0_2 hX_1
          have hk_2 : x_2.1 ≤ 1601 := by omega
          refine gx_lstore_n C _ dd_Mo_parseEnds_71 (kk := ?_)
          refine gx_aload_n C 2 dd_Mo_parseEnds_72 (kk := ?_)
          refine gx_bipush (v := nI 59) C dd_Mo_parseEnds_73 (kk := ?_)
          refine gx_callV C (ct_Mo_takeIf (gx_l K) D dA ad h F L S_2 hX_2 h15_2 hk_2 h16_2 (c := 59) (by decide) (by decide)) me_Mo_takeIf ml_Mo_225 mn_Mo_takeIf _ (gx_w_at (by decide) mo_h_43) rfl dd_Mo_parseEnds_75 (kk := fun v w hq => ?_)
          obtain ⟨rfl, S_3, rfl, fr0_3, hmp_3⟩ := hq
          have fr_3 := mp_tr fr_2 fr0_3
          rcases e_3 : pr_sgn X 59 x_2.1 with f | k_3
          · rw [e_3] at hmp_3
            obtain ⟨hb16, hbne⟩ := hmp_3
            have hbad : ¬ S_3 16 = 0 := by rw [hb16]; exact hbne
            refine gx_aload_n C 2 dd_Mo_parseEnds_78 (kk := ?_)
            refine mo_get C fd_Mo_203 dd_Mo_parseEnds_79 (kk := ?_)
            skip
            refine gx_if_ne C 106 dd_Mo_parseEnds_82 (fun h82 => ?_) (fun h82 => absurd h82 hbad)
            refine gx_aload_n C 2 dd_Mo_parseEnds_106 (kk := ?_)
            refine mo_get C fd_Mo_203 dd_Mo_parseEnds_107 (kk := ?_)
            skip
            refine gx_if_ne C 123 dd_Mo_parseEnds_110 (fun h110 => ?_) (fun h110 => absurd h110 hbad)
            refine gx_vret C dd_Mo_parseEnds_123 ?_
            have hwt : pr_wt X x_0.1 = .inl f := by
              unfold pr_wt
              rw [pr_bdr e_1, pr_bdr e_2, pr_bdl e_3]
            have hR : pr_en X a (k0 + 1) = .inl f := by
              unfold pr_en
              rw [pr_bdr e_0, if_neg (by rw [hen]; decide), pr_bdl hwt]
            refine ⟨rfl, F, L, S_3, rfl, mo_w_rf, fr_3, ?_⟩
            rw [hR]
            exact ⟨hb16, hbne⟩
          · rw [e_3] at hmp_3
            obtain ⟨h16_3, h15_3⟩ := hmp_3
            have hr_3 := pr_sgn_r e_3
            have hX_3 := mp_X fr0_3 hX_2
            have hk_3 : k_3 ≤ 1601 := by omega
            refine gx_aload_n C 2 dd_Mo_parseEnds_78 (kk := ?_)
            refine mo_get C fd_Mo_203 dd_Mo_parseEnds_79 (kk := ?_)
            refine gx_topi _ h16_3 ?_
            refine gx_if_ne C 106 dd_Mo_parseEnds_82 (fun h82 => absurd rfl h82) (fun h82 => ?_)
            refine gx_iload_n C 3 dd_Mo_parseEnds_85 (kk := ?_)
            refine gx_if_eq C 106 dd_Mo_parseEnds_86 (fun h86 => ?_) (fun h86 => absurd rfl h86)
            refine gx_aload_n C 2 dd_Mo_parseEnds_106 (kk := ?_)
            refine mo_get C fd_Mo_203 dd_Mo_parseEnds_107 (kk := ?_)
            refine gx_topi _ h16_3 ?_
            refine gx_if_ne C 123 dd_Mo_parseEnds_110 (fun h110 => absurd rfl h110) (fun h110 => ?_)
            refine gx_aload_n C 2 dd_Mo_parseEnds_113 (kk := ?_)
            refine mo_get C fd_Mo_20 dd_Mo_parseEnds_114 (kk := ?_)
            refine gx_bipush (v := nI 64) C dd_Mo_parseEnds_117 (kk := ?_)
            refine gx_iload_n C 1 dd_Mo_parseEnds_119 (kk := ?_)
            refine gx_iadd C dd_Mo_parseEnds_120 (kk := ?_)
            refine gx_topi _ (nI_add _ _) ?_
            refine gx_lload_n C 0 dd_Mo_parseEnds_121 (kk := ?_)
            refine mo_s47 C dd_Mo_parseEnds_122 (by omega) (kk := fun L122 hL122 => ?_)
            refine gx_vret C dd_Mo_parseEnds_123 ?_
            have hwt : pr_wt X x_0.1 = .inr (k_3, x_2.2) := by
              unfold pr_wt
              rw [pr_bdr e_1, pr_bdr e_2, pr_bdr e_3]
            have hR : pr_en X a (k0 + 1) = .inr (k_3, (am_n a, am_st a, va_up (am_en a) x_0.2 (some x_2.2), am_ar a)) := by
              unfold pr_en
              rw [pr_bdr e_0, if_neg (by rw [hen]; decide), pr_bdr hwt]
            refine ⟨rfl, F, L122, S_3, rfl, mo_w_fr (mo_fr_47 (s := 4) (q := x_0.2) (by omega) hL122), fr_3, ?_⟩
            rw [hR]
            exact ⟨h16_3, h15_3, mo_is_en (s := 4) (q := x_0.2) (o := some x_2.2) hL122 rfl hA⟩
    · rw [hen] at heq0
      have heb := hok.1.2.2.2.1 _ _ hen
      refine gx_aload_n C 1 dd_Mo_parseEnds_38 (kk := ?_)
      refine mo_get C fd_Mo_20 dd_Mo_parseEnds_39 (kk := ?_)
      refine gx_bipush (v := nI 64) C dd_Mo_parseEnds_42 (kk := ?_)
      refine gx_iload_n C 0 dd_Mo_parseEnds_44 (kk := ?_)
      refine gx_iadd C dd_Mo_parseEnds_45 (kk := ?_)
      refine gx_topi _ (nI_add _ _) ?_
      refine mo_l47 C dd_Mo_parseEnds_46 (by omega) (kk := ?_)
      refine gx_topl _ heq0 ?_
      refine gx_lconst (v := lN 0) C dd_Mo_parseEnds_47 (kk := ?_)
      refine gx_lcmp C dd_Mo_parseEnds_48 (kk := ?_)
      refine gx_if_lt C 58 dd_Mo_parseEnds_49 (fun h49 => absurd (lc_lt.mp h49) (by show ¬ lN e < lN 0; rw [pk_lLT (by omega) (by decide)]; omega)) (fun h49 => ?_)
      refine gx_aload_n C 1 dd_Mo_parseEnds_52 (kk := ?_)
      refine gx_bipush (v := -6) C dd_Mo_parseEnds_53 (kk := ?_)
      refine gx_callV C (ct_Mo_fail (gx_l K) D dA ad h F L S_0 h16_0 (-6)) me_Mo_fail ml_Mo_206 mn_Mo_fail _ (gx_w_at (by decide) mo_h_43) rfl dd_Mo_parseEnds_55 (kk := fun v w hq => ?_)
      obtain ⟨rfl, S_T, rfl, hS_T⟩ := hq
      have hb16 : S_T 16 = -6 := by rw [hS_T, gm_us]
      have hbne : (-6 : Int32) ≠ 0 := by decide
      have hbad : ¬ S_T 16 = 0 := by rw [hb16]; exact hbne
      have fr_T : ∀ k, k ≠ 15 → k ≠ 16 → S_T k = S k := fun k a b => by rw [hS_T, gm_un b]; exact fr_0 k a b
      refine gx_aload_n C 1 dd_Mo_parseEnds_58 (kk := ?_)
      refine gx_bipush (v := nI 47) C dd_Mo_parseEnds_59 (kk := ?_)
      refine gx_callV C (ct_Mo_takeIfF (gx_l K) D dA ad h F L S_T hbad _) me_Mo_takeIf ml_Mo_225 mn_Mo_takeIf _ (gx_w_at (by decide) mo_h_43) rfl dd_Mo_parseEnds_61 (kk := fun v w hq => ?_)
      obtain ⟨rfl, rfl⟩ := hq
      skip
      · refine gx_aload_n C 1 dd_Mo_parseEnds_64 (kk := ?_)
        refine gx_ldc2 C dd_Mo_parseEnds_65 kc_Mo_85 (kk := ?_)
        refine gx_callV C (ct_Mo_takeNumberF (gx_l K) D dA ad h F L S_T hbad _) me_Mo_takeNumber ml_Mo_215 mn_Mo_takeNumber _ (gx_w_at (by decide) mo_h_43) rfl dd_Mo_parseEnds_68 (kk := fun v w hq => ?_)
        obtain ⟨rfl, rfl⟩ := hq
        skip
        · refine gx_lstore_n C _ dd_Mo_parseEnds_71 (kk := ?_)
          refine gx_aload_n C 2 dd_Mo_parseEnds_72 (kk := ?_)
          refine gx_bipush (v := nI 59) C dd_Mo_parseEnds_73 (kk := ?_)
          refine gx_callV C (ct_Mo_takeIfF (gx_l K) D dA ad h F L S_T hbad _) me_Mo_takeIf ml_Mo_225 mn_Mo_takeIf _ (gx_w_at (by decide) mo_h_43) rfl dd_Mo_parseEnds_75 (kk := fun v w hq => ?_)
          obtain ⟨rfl, rfl⟩ := hq
          skip
          · refine gx_aload_n C 2 dd_Mo_parseEnds_78 (kk := ?_)
            refine mo_get C fd_Mo_203 dd_Mo_parseEnds_79 (kk := ?_)
            skip
            refine gx_if_ne C 106 dd_Mo_parseEnds_82 (fun h82 => ?_) (fun h82 => absurd h82 hbad)
            refine gx_aload_n C 2 dd_Mo_parseEnds_106 (kk := ?_)
            refine mo_get C fd_Mo_203 dd_Mo_parseEnds_107 (kk := ?_)
            skip
            refine gx_if_ne C 123 dd_Mo_parseEnds_110 (fun h110 => ?_) (fun h110 => absurd h110 hbad)
            refine gx_vret C dd_Mo_parseEnds_123 ?_
            have hR : pr_en X a (k0 + 1) = .inl (-6) := by
              unfold pr_en
              rw [pr_bdr e_0, if_pos (by rw [hen]; rfl)]
            refine ⟨rfl, F, L, S_T, rfl, mo_w_rf, fr_T, ?_⟩
            rw [hR]
            exact ⟨hb16, hbne⟩
theorem pr_lp_s {X : List Nat} {m k : Nat} {a : am_T} (h : k < X.length) : pr_lp X (m + 1) (k, a) = pr_bd (pr_it X a k) (pr_lp X m) := if_pos h
theorem pr_lp_n {X : List Nat} {m k : Nat} {a : am_T} (h : ¬ k < X.length) : pr_lp X m (k, a) = .inr a := by
  cases m with
  | zero => rfl
  | succ m => exact if_neg h
set_option maxRecDepth 100000 in
set_option maxHeartbeats 4000000 in
theorem ct_Mo_parse (l : Launch) (D : va_G) (dA : Nat → ClassId) (ad : Nat → Nat) (h : Nat → va_E) (F : mo_F) (L : mo_L) (S : Nat → Int32) {σ : sg} (hr : rs F L S σ) (hσ : sg_ok σ) (s : Int32) : gx_Ct l D dA yy_Mo_parse cc_Mo_parse 5 (some .int) 5 0 0 [.ref (ad 43), .int s] (gx_w ad (mo_h dA ad h F L S)) (fun v w => ∃ F2 L2 S2, w = (gx_w ad (mo_h dA ad h F2 L2 S2)) ∧ rs F2 L2 S2 (o_parse σ s).2 ∧ v = some (.int (o_parse σ s).1)) := by
  refine gx_of (by decide) (Nat.le_of_ble_eq_true rfl) (fun K C _ _ => ?_)
  have hM := hr.1
  have hP := hr.2.1
  have hX := hr.2.2
  have hl16 := hX.2.2.1
  refine gx_iload_n C 1 dd_Mo_parse_0 (kk := ?_)
  refine gx_callS C (ct_Mo_isSlot (gx_l K) D dA _ s) me_Mo_isSlot ml_Mo_81 ms_Mo_isSlot dd_Mo_parse_1 (kk := fun v w hq => ?_)
  obtain ⟨rfl, rfl⟩ := hq
  rcases hi : ix 4 s with _ | i
  · refine gx_if_ne C 9 dd_Mo_parse_4 (fun h4 => absurd rfl h4) (fun h4 => ?_)
    refine gx_iconst (v := -1) C dd_Mo_parse_7 (kk := ?_)
    refine gx_iret C dd_Mo_parse_8 ?_
    have hsp : o_parse σ s = (-1, σ) := by
      unfold o_parse
      simp only [hi]
    rw [hsp]
    exact ⟨F, L, S, rfl, hr, rfl⟩
  · obtain ⟨hi4, rfl⟩ := ix_of (by decide) hi
    refine gx_if_ne C 9 dd_Mo_parse_4 (fun h4 => ?_) (fun h4 => absurd (show true = false from fb_0.mp h4) (by decide))
    refine gx_aload_n C 0 dd_Mo_parse_9 (kk := ?_)
    refine gx_iconst (v := nI 0) C dd_Mo_parse_10 (kk := ?_)
    refine mo_put_15 C fw_Mo_197 dd_Mo_parse_11 (kk := fun S11 hS11 => ?_)
    refine gx_aload_n C 0 dd_Mo_parse_14 (kk := ?_)
    refine gx_iconst (v := nI 0) C dd_Mo_parse_15 (kk := ?_)
    refine mo_put_16 C fw_Mo_203 dd_Mo_parse_16 (kk := fun S16 hS16 => ?_)
    refine gx_aload_n C 0 dd_Mo_parse_19 (kk := ?_)
    refine gx_iconst (v := nI 4) C dd_Mo_parse_20 (kk := ?_)
    refine gx_iconst (v := nI 0) C dd_Mo_parse_21 (kk := ?_)
    refine gx_callV C (ct_Mo_blank (gx_l K) D dA ad h F L S16 (s := 4) (n := 0) (by decide)) me_Mo_blank ml_Mo_75 mn_Mo_blank _ (gx_w_at (by decide) mo_h_43) rfl dd_Mo_parse_22 (kk := fun v w hq => ?_)
    obtain ⟨rfl, F4, L4, rfl, hM4, hf4⟩ := hq
    have fra : ∀ k, k ≠ 15 → k ≠ 16 → S16 k = S k := fun k a b => by rw [hS16, gm_un b, hS11, gm_un a]
    have hw4 := mo_w_fr hf4
    have hXa : rs_X F4 S16 σ.2.2 := rs_X_t hw4.2.2.2.2.2 (fra 14 (by decide) (by decide)) hX
    have h15a : S16 15 = nI 0 := by rw [hS16, gm_un (by decide), hS11, gm_us]
    have h16a : S16 16 = 0 := by rw [hS16, gm_us]; rfl
    refine gx_aload_n C 0 dd_Mo_parse_25 (kk := ?_)
    refine gx_bipush (v := nI 110) C dd_Mo_parse_26 (kk := ?_)
    refine gx_callV C (ct_Mo_takeIf (gx_l K) D dA ad h F4 L4 S16 hXa h15a (by decide) h16a (c := 110) (by decide) (by decide)) me_Mo_takeIf ml_Mo_225 mn_Mo_takeIf _ (gx_w_at (by decide) mo_h_43) rfl dd_Mo_parse_28 (kk := fun v w hq => ?_)
    obtain ⟨rfl, S_0, rfl, fr0_0, hmp_0⟩ := hq
    have fr_0 := mp_tr fra fr0_0
    rcases e_0 : pr_sgn σ.2.2 110 0 with f | k_0
    · rw [e_0] at hmp_0
      obtain ⟨hb16, hbne⟩ := hmp_0
      have hbad : ¬ S_0 16 = 0 := by rw [hb16]; exact hbne
      refine gx_aload_n C 0 dd_Mo_parse_31 (kk := ?_)
      refine gx_ldc2 C dd_Mo_parse_32 kc_Mo_231 (kk := ?_)
      refine gx_callV C (ct_Mo_takeNumberF (gx_l K) D dA ad h F4 L4 S_0 hbad _) me_Mo_takeNumber ml_Mo_215 mn_Mo_takeNumber _ (gx_w_at (by decide) mo_h_43) rfl dd_Mo_parse_35 (kk := fun v w hq => ?_)
      obtain ⟨rfl, rfl⟩ := hq
      skip
      · refine gx_lstore_n C _ dd_Mo_parse_38 (kk := ?_)
        refine gx_aload_n C 1 dd_Mo_parse_39 (kk := ?_)
        refine gx_bipush (v := nI 59) C dd_Mo_parse_40 (kk := ?_)
        refine gx_callV C (ct_Mo_takeIfF (gx_l K) D dA ad h F4 L4 S_0 hbad _) me_Mo_takeIf ml_Mo_225 mn_Mo_takeIf _ (gx_w_at (by decide) mo_h_43) rfl dd_Mo_parse_42 (kk := fun v w hq => ?_)
        obtain ⟨rfl, rfl⟩ := hq
        skip
        · refine gx_aload_n C 1 dd_Mo_parse_45 (kk := ?_)
          refine mo_get C fd_Mo_7 dd_Mo_parse_46 (kk := ?_)
          refine gx_iconst (v := nI 4) C dd_Mo_parse_49 (kk := ?_)
          refine gx_lload_n C 0 dd_Mo_parse_50 (kk := ?_)
          refine gx_l2i C dd_Mo_parse_51 (w := _) (hv := rfl) (kk := ?_)
          refine mo_s44 C dd_Mo_parse_52 (by omega) (kk := fun F52 hF52 => ?_)
          refine gx_loc [1, 2] ?_
          have hw5 : mo_w F L F52 L4 := mo_w_tr hw4 (mo_w_fr (mo_fr_44 hF52))
          have bad : ∀ F1 L1 S1 f, mo_w F L F1 L1 → (∀ k, k ≠ 15 → k ≠ 16 → S1 k = S k) → S1 16 = f → f ≠ 0 → pr_all σ.2.2 = .inl f → gx_G K D 5 0 0 53 [(0, .ref (ad 43)), (1, .int (nI i))] [] (gx_w ad (mo_h dA ad h F1 L1 S1)) (gx_Z K D dA 0 0 (fun v w => ∃ F2 L2 S2, w = (gx_w ad (mo_h dA ad h F2 L2 S2)) ∧ rs F2 L2 S2 (o_parse σ (nI i)).2 ∧ v = some (.int (o_parse σ (nI i)).1))) := by
            intro F1 L1 S1 f hw1 hfr hb16 hbne hall
            have hbad : ¬ S1 16 = 0 := by rw [hb16]; exact hbne
            refine gx_aload_n C 0 dd_Mo_parse_53 (kk := ?_)
            refine mo_get C fd_Mo_203 dd_Mo_parse_54 (kk := ?_)
            refine gx_if_ne C 117 dd_Mo_parse_57 (fun h57 => ?_) (fun h57 => absurd h57 hbad)
            refine gx_aload_n C 0 dd_Mo_parse_117 (kk := ?_)
            refine mo_get C fd_Mo_203 dd_Mo_parse_118 (kk := ?_)
            refine gx_if_eq C 129 dd_Mo_parse_121 (fun h121 => absurd h121 hbad) (fun h121 => ?_)
            refine gx_aload_n C 0 dd_Mo_parse_124 (kk := ?_)
            refine mo_get C fd_Mo_203 dd_Mo_parse_125 (kk := ?_)
            refine gx_iret C dd_Mo_parse_128 ?_
            have hsp : o_parse σ (nI i) = (f, σ) := by
              unfold o_parse
              simp only [hi, hall]
            rw [hsp]
            exact ⟨F1, L1, S1, rfl, mo_w_rs hw1 (hfr 10 (by decide) (by decide)) (hfr 14 (by decide) (by decide)) hr, by rw [hb16]⟩
          have hs0 : pr_s0 σ.2.2 = .inl f := by
            unfold pr_s0
            rw [pr_bdl e_0]
          exact bad F52 L4 S_0 f hw5 fr_0 hb16 hbne (by unfold pr_all; rw [pr_bdl hs0])
    · rw [e_0] at hmp_0
      obtain ⟨h16_0, h15_0⟩ := hmp_0
      have hr_0 := pr_sgn_r e_0
      have hX_0 := mp_X fr0_0 hXa
      have hk_0 : k_0 ≤ 1601 := by omega
      refine gx_aload_n C 0 dd_Mo_parse_31 (kk := ?_)
      refine gx_ldc2 C dd_Mo_parse_32 kc_Mo_231 (kk := ?_)
      refine gx_callV C (ct_Mo_takeNumber (gx_l K) D dA ad h F4 L4 S_0 hX_0 h15_0 hk_0 h16_0 (lim := 17) (most := 16) pr_lim16) me_Mo_takeNumber ml_Mo_215 mn_Mo_takeNumber _ (gx_w_at (by decide) mo_h_43) rfl dd_Mo_parse_35 (kk := fun v w hq => ?_)
      obtain ⟨S_1, z_1, rfl, rfl, fr0_1, hmp_1⟩ := hq
      have fr_1 := mp_tr fr_0 fr0_1
      rcases e_1 : pr_num σ.2.2 17 k_0 with f | x_1
      · rw [e_1] at hmp_1
        obtain ⟨hb16, hbne⟩ := hmp_1
        have hbad : ¬ S_1 16 = 0 := by rw [hb16]; exact hbne
        refine gx_lstore_n C _ dd_Mo_parse_38 (kk := ?_)
        refine gx_aload_n C 1 dd_Mo_parse_39 (kk := ?_)
        refine gx_bipush (v := nI 59) C dd_Mo_parse_40 (kk := ?_)
        refine gx_callV C (ct_Mo_takeIfF (gx_l K) D dA ad h F4 L4 S_1 hbad _) me_Mo_takeIf ml_Mo_225 mn_Mo_takeIf _ (gx_w_at (by decide) mo_h_43) rfl dd_Mo_parse_42 (kk := fun v w hq => ?_)
        obtain ⟨rfl, rfl⟩ := hq
        skip
        · refine gx_aload_n C 1 dd_Mo_parse_45 (kk := ?_)
          refine mo_get C fd_Mo_7 dd_Mo_parse_46 (kk := ?_)
          refine gx_iconst (v := nI 4) C dd_Mo_parse_49 (kk := ?_)
          refine gx_lload_n C 0 dd_Mo_parse_50 (kk := ?_)
          refine gx_l2i C dd_Mo_parse_51 (w := _) (hv := rfl) (kk := ?_)
          refine mo_s44 C dd_Mo_parse_52 (by omega) (kk := fun F52 hF52 => ?_)
          refine gx_loc [1, 2] ?_
          have hw5 : mo_w F L F52 L4 := mo_w_tr hw4 (mo_w_fr (mo_fr_44 hF52))
          have bad : ∀ F1 L1 S1 f, mo_w F L F1 L1 → (∀ k, k ≠ 15 → k ≠ 16 → S1 k = S k) → S1 16 = f → f ≠ 0 → pr_all σ.2.2 = .inl f → gx_G K D 5 0 0 53 [(0, .ref (ad 43)), (1, .int (nI i))] [] (gx_w ad (mo_h dA ad h F1 L1 S1)) (gx_Z K D dA 0 0 (fun v w => ∃ F2 L2 S2, w = (gx_w ad (mo_h dA ad h F2 L2 S2)) ∧ rs F2 L2 S2 (o_parse σ (nI i)).2 ∧ v = some (.int (o_parse σ (nI i)).1))) := by
            intro F1 L1 S1 f hw1 hfr hb16 hbne hall
            have hbad : ¬ S1 16 = 0 := by rw [hb16]; exact hbne
            refine gx_aload_n C 0 dd_Mo_parse_53 (kk := ?_)
            refine mo_get C fd_Mo_203 dd_Mo_parse_54 (kk := ?_)
            refine gx_if_ne C 117 dd_Mo_parse_57 (fun h57 => ?_) (fun h57 => absurd h57 hbad)
            refine gx_aload_n C 0 dd_Mo_parse_117 (kk := ?_)
            refine mo_get C fd_Mo_203 dd_Mo_parse_118 (kk := ?_)
            refine gx_if_eq C 129 dd_Mo_parse_121 (fun h121 => absurd h121 hbad) (fun h121 => ?_)
            refine gx_aload_n C 0 dd_Mo_parse_124 (kk := ?_)
            refine mo_get C fd_Mo_203 dd_Mo_parse_125 (kk := ?_)
            refine gx_iret C dd_Mo_parse_128 ?_
            have hsp : o_parse σ (nI i) = (f, σ) := by
              unfold o_parse
              simp only [hi, hall]
            rw [hsp]
            exact ⟨F1, L1, S1, rfl, mo_w_rs hw1 (hfr 10 (by decide) (by decide)) (hfr 14 (by decide) (by decide)) hr, by rw [hb16]⟩
          have hs0 : pr_s0 σ.2.2 = .inl f := by
            unfold pr_s0
            rw [pr_bdr e_0, pr_bdl e_1]
          exact bad F52 L4 S_1 f hw5 fr_1 hb16 hbne (by unfold pr_all; rw [pr_bdl hs0])
      · rw [e_1] at hmp_1
        obtain ⟨h16_1, h15_1, rfl⟩ := hmp_1
        have hr_1 := pr_num_r e_1
        have hX_1 := mp_X fr0_1 hX_0
        have hk_1 : x_1.1 ≤ 1601 := by omega
        refine gx_lstore_n C _ dd_Mo_parse_38 (kk := ?_)
        refine gx_aload_n C 1 dd_Mo_parse_39 (kk := ?_)
        refine gx_bipush (v := nI 59) C dd_Mo_parse_40 (kk := ?_)
        refine gx_callV C (ct_Mo_takeIf (gx_l K) D dA ad h F4 L4 S_1 hX_1 h15_1 hk_1 h16_1 (c := 59) (by decide) (by decide)) me_Mo_takeIf ml_Mo_225 mn_Mo_takeIf _ (gx_w_at (by decide) mo_h_43) rfl dd_Mo_parse_42 (kk := fun v w hq => ?_)
        obtain ⟨rfl, S_2, rfl, fr0_2, hmp_2⟩ := hq
        have fr_2 := mp_tr fr_1 fr0_2
        rcases e_2 : pr_sgn σ.2.2 59 x_1.1 with f | k_2
        · rw [e_2] at hmp_2
          obtain ⟨hb16, hbne⟩ := hmp_2
          have hbad : ¬ S_2 16 = 0 := by rw [hb16]; exact hbne
          refine gx_aload_n C 1 dd_Mo_parse_45 (kk := ?_)
          refine mo_get C fd_Mo_7 dd_Mo_parse_46 (kk := ?_)
          refine gx_iconst (v := nI 4) C dd_Mo_parse_49 (kk := ?_)
          refine gx_lload_n C 0 dd_Mo_parse_50 (kk := ?_)
          refine gx_l2i C dd_Mo_parse_51 (w := _) (hv := rfl) (kk := ?_)
          refine mo_s44 C dd_Mo_parse_52 (by omega) (kk := fun F52 hF52 => ?_)
          refine gx_loc [1, 2] ?_
          have hw5 : mo_w F L F52 L4 := mo_w_tr hw4 (mo_w_fr (mo_fr_44 hF52))
          have bad : ∀ F1 L1 S1 f, mo_w F L F1 L1 → (∀ k, k ≠ 15 → k ≠ 16 → S1 k = S k) → S1 16 = f → f ≠ 0 → pr_all σ.2.2 = .inl f → gx_G K D 5 0 0 53 [(0, .ref (ad 43)), (1, .int (nI i))] [] (gx_w ad (mo_h dA ad h F1 L1 S1)) (gx_Z K D dA 0 0 (fun v w => ∃ F2 L2 S2, w = (gx_w ad (mo_h dA ad h F2 L2 S2)) ∧ rs F2 L2 S2 (o_parse σ (nI i)).2 ∧ v = some (.int (o_parse σ (nI i)).1))) := by
            intro F1 L1 S1 f hw1 hfr hb16 hbne hall
            have hbad : ¬ S1 16 = 0 := by rw [hb16]; exact hbne
            refine gx_aload_n C 0 dd_Mo_parse_53 (kk := ?_)
            refine mo_get C fd_Mo_203 dd_Mo_parse_54 (kk := ?_)
            refine gx_if_ne C 117 dd_Mo_parse_57 (fun h57 => ?_) (fun h57 => absurd h57 hbad)
            refine gx_aload_n C 0 dd_Mo_parse_117 (kk := ?_)
            refine mo_get C fd_Mo_203 dd_Mo_parse_118 (kk := ?_)
            refine gx_if_eq C 129 dd_Mo_parse_121 (fun h121 => absurd h121 hbad) (fun h121 => ?_)
            refine gx_aload_n C 0 dd_Mo_parse_124 (kk := ?_)
            refine mo_get C fd_Mo_203 dd_Mo_parse_125 (kk := ?_)
            refine gx_iret C dd_Mo_parse_128 ?_
            have hsp : o_parse σ (nI i) = (f, σ) := by
              unfold o_parse
              simp only [hi, hall]
            rw [hsp]
            exact ⟨F1, L1, S1, rfl, mo_w_rs hw1 (hfr 10 (by decide) (by decide)) (hfr 14 (by decide) (by decide)) hr, by rw [hb16]⟩
          have hs0 : pr_s0 σ.2.2 = .inl f := by
            unfold pr_s0
            rw [pr_bdr e_0, pr_bdr e_1, pr_bdl e_2]
          exact bad F52 L4 S_2 f hw5 fr_2 hb16 hbne (by unfold pr_all; rw [pr_bdl hs0])
        · rw [e_2] at hmp_2
          obtain ⟨h16_2, h15_2⟩ := hmp_2
          have hr_2 := pr_sgn_r e_2
          have hX_2 := mp_X fr0_2 hX_1
          have hk_2 : k_2 ≤ 1601 := by omega
          refine gx_aload_n C 1 dd_Mo_parse_45 (kk := ?_)
          refine mo_get C fd_Mo_7 dd_Mo_parse_46 (kk := ?_)
          refine gx_iconst (v := nI 4) C dd_Mo_parse_49 (kk := ?_)
          refine gx_lload_n C 0 dd_Mo_parse_50 (kk := ?_)
          refine gx_l2i C dd_Mo_parse_51 (w := nI x_1.2) (hv := lN_i _) (kk := ?_)
          refine mo_s44 C dd_Mo_parse_52 (by omega) (kk := fun F52 hF52 => ?_)
          refine gx_loc [1, 2] ?_
          have hw5 : mo_w F L F52 L4 := mo_w_tr hw4 (mo_w_fr (mo_fr_44 hF52))
          have bad : ∀ F1 L1 S1 f, mo_w F L F1 L1 → (∀ k, k ≠ 15 → k ≠ 16 → S1 k = S k) → S1 16 = f → f ≠ 0 → pr_all σ.2.2 = .inl f → gx_G K D 5 0 0 53 [(0, .ref (ad 43)), (1, .int (nI i))] [] (gx_w ad (mo_h dA ad h F1 L1 S1)) (gx_Z K D dA 0 0 (fun v w => ∃ F2 L2 S2, w = (gx_w ad (mo_h dA ad h F2 L2 S2)) ∧ rs F2 L2 S2 (o_parse σ (nI i)).2 ∧ v = some (.int (o_parse σ (nI i)).1))) := by
            intro F1 L1 S1 f hw1 hfr hb16 hbne hall
            have hbad : ¬ S1 16 = 0 := by rw [hb16]; exact hbne
            refine gx_aload_n C 0 dd_Mo_parse_53 (kk := ?_)
            refine mo_get C fd_Mo_203 dd_Mo_parse_54 (kk := ?_)
            refine gx_if_ne C 117 dd_Mo_parse_57 (fun h57 => ?_) (fun h57 => absurd h57 hbad)
            refine gx_aload_n C 0 dd_Mo_parse_117 (kk := ?_)
            refine mo_get C fd_Mo_203 dd_Mo_parse_118 (kk := ?_)
            refine gx_if_eq C 129 dd_Mo_parse_121 (fun h121 => absurd h121 hbad) (fun h121 => ?_)
            refine gx_aload_n C 0 dd_Mo_parse_124 (kk := ?_)
            refine mo_get C fd_Mo_203 dd_Mo_parse_125 (kk := ?_)
            refine gx_iret C dd_Mo_parse_128 ?_
            have hsp : o_parse σ (nI i) = (f, σ) := by
              unfold o_parse
              simp only [hi, hall]
            rw [hsp]
            exact ⟨F1, L1, S1, rfl, mo_w_rs hw1 (hfr 10 (by decide) (by decide)) (hfr 14 (by decide) (by decide)) hr, by rw [hb16]⟩
          have fin : ∀ F1 L1 S1 a, mo_w F L F1 L1 → (∀ k, k ≠ 15 → k ≠ 16 → S1 k = S k) → S1 16 = 0 → mo_is F1 L1 4 a → am_ok a → pr_all σ.2.2 = .inr a → gx_G K D 5 0 0 117 [(0, .ref (ad 43)), (1, .int (nI i))] [] (gx_w ad (mo_h dA ad h F1 L1 S1)) (gx_Z K D dA 0 0 (fun v w => ∃ F2 L2 S2, w = (gx_w ad (mo_h dA ad h F2 L2 S2)) ∧ rs F2 L2 S2 (o_parse σ (nI i)).2 ∧ v = some (.int (o_parse σ (nI i)).1))) := by
            intro F1 L1 S1 a hw1 hfr h16 hMa hoka hall
            refine gx_aload_n C 0 dd_Mo_parse_117 (kk := ?_)
            refine mo_get C fd_Mo_203 dd_Mo_parse_118 (kk := ?_)
            refine gx_topi _ h16 ?_
            refine gx_if_eq C 129 dd_Mo_parse_121 (fun h121 => ?_) (fun h121 => absurd rfl h121)
            refine gx_aload_n C 0 dd_Mo_parse_129 (kk := ?_)
            refine gx_iload_n C 1 dd_Mo_parse_130 (kk := ?_)
            refine gx_callV C (ct_Mo_keep (gx_l K) D dA ad h F1 L1 S1 (c := i) (B := 1000000001) (b := a) (by omega) hMa hoka.1.1 (by decide) (fun x hx => (hoka.1.2.2.1 x hx).2) hoka.1.2.2.2.1 hoka.1.2.2.2.2) me_Mo_keep ml_Mo_126 mn_Mo_keep _ (gx_w_at (by decide) mo_h_43) rfl dd_Mo_parse_131 (kk := fun v w hq => ?_)
            obtain ⟨hfit, rfl, F7, L7, rfl, hM7, hf7⟩ := hq.resolve_right (fun e => absurd (e.1.symm.trans (am_ok_fit hoka)) (by decide))
            refine gx_istore C _ dd_Mo_parse_134 (kk := ?_)
            refine gx_aload_n C 1 dd_Mo_parse_136 (kk := ?_)
            refine mo_get C fd_Mo_23 dd_Mo_parse_137 (kk := ?_)
            refine gx_iload_n C 2 dd_Mo_parse_140 (kk := ?_)
            refine mo_l48 C dd_Mo_parse_141 (by omega) (kk := ?_)
            refine gx_topi (nI (am_ar a).length) hM7.2.2.2.1 ?_
            refine gx_iret C dd_Mo_parse_142 ?_
            have hsp : o_parse σ (nI i) = (nI (am_ar a).length, o_set σ i a) := by
              unfold o_parse
              simp only [hi, hall]
              show (if am_fit a = true then _ else _) = _
              rw [if_pos (am_ok_fit hoka)]
            rw [hsp]
            exact ⟨F7, L7, S1, rfl, rs_set hf7 hM7 (mo_w_rs hw1 (hfr 10 (by decide) (by decide)) (hfr 14 (by decide) (by decide)) hr), rfl⟩
          have loop : ∀ m k0 a F1 L1 S1, mo_w F L F1 L1 → (∀ k, k ≠ 15 → k ≠ 16 → S1 k = S k) → S1 15 = nI k0 → k0 ≤ σ.2.2.length → σ.2.2.length ≤ k0 + m → S1 16 = 0 → mo_is F1 L1 4 a → am_ok a → pr_all σ.2.2 = pr_lp σ.2.2 m (k0, a) → gx_G K D 5 0 0 53 [(0, .ref (ad 43)), (1, .int (nI i))] [] (gx_w ad (mo_h dA ad h F1 L1 S1)) (gx_Z K D dA 0 0 (fun v w => ∃ F2 L2 S2, w = (gx_w ad (mo_h dA ad h F2 L2 S2)) ∧ rs F2 L2 S2 (o_parse σ (nI i)).2 ∧ v = some (.int (o_parse σ (nI i)).1))) := by
            intro m
            induction m with
            | zero =>
              intro k0 a F1 L1 S1 hw1 hfr h15 hk0 hkm h16 hMa hoka hE
              refine gx_aload_n C 0 dd_Mo_parse_53 (kk := ?_)
              refine mo_get C fd_Mo_203 dd_Mo_parse_54 (kk := ?_)
              refine gx_topi _ h16 ?_
              refine gx_if_ne C 117 dd_Mo_parse_57 (fun h57 => absurd rfl h57) (fun h57 => ?_)
              refine gx_aload_n C 0 dd_Mo_parse_60 (kk := ?_)
              refine mo_get C fd_Mo_197 dd_Mo_parse_61 (kk := ?_)
              refine gx_topi _ h15 ?_
              refine gx_aload_n C 0 dd_Mo_parse_64 (kk := ?_)
              refine mo_get C fd_Mo_180 dd_Mo_parse_65 (kk := ?_)
              refine gx_topi (nI σ.2.2.length) ((hfr 14 (by decide) (by decide)).trans hX.1) ?_
              refine gx_icmp_ge C 117 dd_Mo_parse_68 (fun h68 => ?_) (fun h68 => absurd (nI_le (a := σ.2.2.length) (b := k0) (by omega) (by omega)) h68)
              exact fin F1 L1 S1 a hw1 hfr h16 hMa hoka (by rw [hE, pr_lp_n (by omega)])
            | succ m ih =>
              intro k0 a F1 L1 S1 hw1 hfr h15 hk0 hkm h16 hMa hoka hE
              refine gx_aload_n C 0 dd_Mo_parse_53 (kk := ?_)
              refine mo_get C fd_Mo_203 dd_Mo_parse_54 (kk := ?_)
              refine gx_topi _ h16 ?_
              refine gx_if_ne C 117 dd_Mo_parse_57 (fun h57 => absurd rfl h57) (fun h57 => ?_)
              refine gx_aload_n C 0 dd_Mo_parse_60 (kk := ?_)
              refine mo_get C fd_Mo_197 dd_Mo_parse_61 (kk := ?_)
              refine gx_topi _ h15 ?_
              refine gx_aload_n C 0 dd_Mo_parse_64 (kk := ?_)
              refine mo_get C fd_Mo_180 dd_Mo_parse_65 (kk := ?_)
              refine gx_topi (nI σ.2.2.length) ((hfr 14 (by decide) (by decide)).trans hX.1) ?_
              refine gx_icmp_ge C 117 dd_Mo_parse_68 (fun h68 => ?_) (fun h68 => ?_)
              · rw [nI_leI (by omega) (by omega)] at h68
                exact fin F1 L1 S1 a hw1 hfr h16 hMa hoka (by rw [hE, pr_lp_n (by omega)])
              · have hkl : k0 < σ.2.2.length := by rw [nI_leI (by omega) (by omega)] at h68; omega
                obtain ⟨c0, hc0⟩ : ∃ c, σ.2.2[k0]? = some c := ⟨_, List.getElem?_eq_getElem hkl⟩
                have hcb := hX.2.2.2 c0 (List.mem_of_getElem? hc0)
                have hmh : mp_h σ.2.2 k0 = c0 := by unfold mp_h; rw [hc0]
                rcases (show c0 = 115 ∨ c0 = 102 ∨ (¬ c0 = 115 ∧ ¬ c0 = 102) by omega) with hcc | hcc | ⟨hcc, hcd⟩
                · have hc : σ.2.2[k0]? = some 115 := by rw [hc0, hcc]
                  refine gx_aload_n C 0 dd_Mo_parse_71 (kk := ?_)
                  refine gx_callV C (ct_Mo_here (gx_l K) D dA ad h F1 L1 S1 (rs_X_t hw1.2.2.2.2.2 (hfr 14 (by decide) (by decide)) hX) h15 (by omega)) me_Mo_here ml_Mo_200 mn_Mo_here _ (gx_w_at (by decide) mo_h_43) rfl dd_Mo_parse_72 (kk := fun v w hq => ?_)
                  obtain ⟨rfl, rfl⟩ := hq
                  refine gx_bipush (v := nI 115) C dd_Mo_parse_75 (kk := ?_)
                  refine gx_icmp_eq C 89 dd_Mo_parse_77 (fun h77 => ?_) (fun h77 => absurd (congrArg nI (hmh.trans hcc)) h77)
                  refine gx_aload_n C 0 dd_Mo_parse_89 (kk := ?_)
                  refine gx_aload_n C 0 dd_Mo_parse_90 (kk := ?_)
                  refine gx_callV C (ct_Mo_here (gx_l K) D dA ad h F1 L1 S1 (rs_X_t hw1.2.2.2.2.2 (hfr 14 (by decide) (by decide)) hX) h15 (by omega)) me_Mo_here ml_Mo_200 mn_Mo_here _ (gx_w_at (by decide) mo_h_43) rfl dd_Mo_parse_91 (kk := fun v w hq => ?_)
                  obtain ⟨rfl, rfl⟩ := hq
                  refine gx_bipush (v := nI 115) C dd_Mo_parse_94 (kk := ?_)
                  refine gx_icmp_ne C 103 dd_Mo_parse_96 (fun h96 => absurd (congrArg nI (hmh.trans hcc)) h96) (fun h96 => ?_)
                  refine gx_iconst (v := nI 1) C dd_Mo_parse_99 (kk := ?_)
                  refine gx_goto C 104 dd_Mo_parse_100 (kk := ?_)
                  refine gx_callV C (ct_Mo_parseEndsS (gx_l K) D dA ad h F1 L1 S1 (rs_X_t hw1.2.2.2.2.2 (hfr 14 (by decide) (by decide)) hX) h15 (by omega) h16 hMa hoka (by omega)) me_Mo_parseEnds ml_Mo_233 mn_Mo_parseEnds _ (gx_w_at (by decide) mo_h_43) rfl dd_Mo_parse_104 (kk := fun v w hq => ?_)
                  obtain ⟨rfl, F3, L3, S3, rfl, hw3, hfr3, hmi⟩ := hq
                  refine gx_goto C 53 dd_Mo_parse_107 (kk := ?_)
                  have hit : pr_it σ.2.2 a k0 = pr_st σ.2.2 a (k0 + 1) := by
                    unfold pr_it
                    rw [if_pos hc]
                  rw [← hit] at hmi
                  have hw4 := mo_w_tr hw1 hw3
                  have hfr4 := mp_tr hfr hfr3
                  rcases hpi : pr_it σ.2.2 a k0 with f | ⟨k2, b⟩
                  · rw [hpi] at hmi
                    exact bad F3 L3 S3 f hw4 hfr4 hmi.1 hmi.2 (by rw [hE, pr_lp_s hkl, pr_bdl hpi])
                  · rw [hpi] at hmi
                    have hr2 := pr_it_r hpi
                    exact ih k2 b F3 L3 S3 hw4 hfr4 hmi.2.1 hr2.2.1 (by omega) hmi.1 hmi.2.2 (pr_it_ok hpi hoka) (by rw [hE, pr_lp_s hkl, pr_bdr hpi])
                · have hc : σ.2.2[k0]? = some 102 := by rw [hc0, hcc]
                  refine gx_aload_n C 0 dd_Mo_parse_71 (kk := ?_)
                  refine gx_callV C (ct_Mo_here (gx_l K) D dA ad h F1 L1 S1 (rs_X_t hw1.2.2.2.2.2 (hfr 14 (by decide) (by decide)) hX) h15 (by omega)) me_Mo_here ml_Mo_200 mn_Mo_here _ (gx_w_at (by decide) mo_h_43) rfl dd_Mo_parse_72 (kk := fun v w hq => ?_)
                  obtain ⟨rfl, rfl⟩ := hq
                  refine gx_bipush (v := nI 115) C dd_Mo_parse_75 (kk := ?_)
                  refine gx_icmp_eq C 89 dd_Mo_parse_77 (fun h77 => absurd ((nI_eq (by omega) (by decide)).mp h77) (by omega)) (fun h77 => ?_)
                  refine gx_aload_n C 0 dd_Mo_parse_80 (kk := ?_)
                  refine gx_callV C (ct_Mo_here (gx_l K) D dA ad h F1 L1 S1 (rs_X_t hw1.2.2.2.2.2 (hfr 14 (by decide) (by decide)) hX) h15 (by omega)) me_Mo_here ml_Mo_200 mn_Mo_here _ (gx_w_at (by decide) mo_h_43) rfl dd_Mo_parse_81 (kk := fun v w hq => ?_)
                  obtain ⟨rfl, rfl⟩ := hq
                  refine gx_bipush (v := nI 102) C dd_Mo_parse_84 (kk := ?_)
                  refine gx_icmp_ne C 110 dd_Mo_parse_86 (fun h86 => absurd (congrArg nI (hmh.trans hcc)) h86) (fun h86 => ?_)
                  refine gx_aload_n C 0 dd_Mo_parse_89 (kk := ?_)
                  refine gx_aload_n C 0 dd_Mo_parse_90 (kk := ?_)
                  refine gx_callV C (ct_Mo_here (gx_l K) D dA ad h F1 L1 S1 (rs_X_t hw1.2.2.2.2.2 (hfr 14 (by decide) (by decide)) hX) h15 (by omega)) me_Mo_here ml_Mo_200 mn_Mo_here _ (gx_w_at (by decide) mo_h_43) rfl dd_Mo_parse_91 (kk := fun v w hq => ?_)
                  obtain ⟨rfl, rfl⟩ := hq
                  refine gx_bipush (v := nI 115) C dd_Mo_parse_94 (kk := ?_)
                  refine gx_icmp_ne C 103 dd_Mo_parse_96 (fun h96 => ?_) (fun h96 => absurd ((nI_eq (by omega) (by decide)).mp h96) (by omega))
                  refine gx_iconst (v := nI 0) C dd_Mo_parse_103 (kk := ?_)
                  refine gx_callV C (ct_Mo_parseEndsE (gx_l K) D dA ad h F1 L1 S1 (rs_X_t hw1.2.2.2.2.2 (hfr 14 (by decide) (by decide)) hX) h15 (by omega) h16 hMa hoka (by omega)) me_Mo_parseEnds ml_Mo_233 mn_Mo_parseEnds _ (gx_w_at (by decide) mo_h_43) rfl dd_Mo_parse_104 (kk := fun v w hq => ?_)
                  obtain ⟨rfl, F3, L3, S3, rfl, hw3, hfr3, hmi⟩ := hq
                  refine gx_goto C 53 dd_Mo_parse_107 (kk := ?_)
                  have hit : pr_it σ.2.2 a k0 = pr_en σ.2.2 a (k0 + 1) := by
                    unfold pr_it
                    rw [if_neg (by rw [hc]; decide), if_pos hc]
                  rw [← hit] at hmi
                  have hw4 := mo_w_tr hw1 hw3
                  have hfr4 := mp_tr hfr hfr3
                  rcases hpi : pr_it σ.2.2 a k0 with f | ⟨k2, b⟩
                  · rw [hpi] at hmi
                    exact bad F3 L3 S3 f hw4 hfr4 hmi.1 hmi.2 (by rw [hE, pr_lp_s hkl, pr_bdl hpi])
                  · rw [hpi] at hmi
                    have hr2 := pr_it_r hpi
                    exact ih k2 b F3 L3 S3 hw4 hfr4 hmi.2.1 hr2.2.1 (by omega) hmi.1 hmi.2.2 (pr_it_ok hpi hoka) (by rw [hE, pr_lp_s hkl, pr_bdr hpi])
                · have hc1 : ¬ σ.2.2[k0]? = some 115 := by rw [hc0]; exact fun e => hcc (Option.some.inj e)
                  have hc2 : ¬ σ.2.2[k0]? = some 102 := by rw [hc0]; exact fun e => hcd (Option.some.inj e)
                  refine gx_aload_n C 0 dd_Mo_parse_71 (kk := ?_)
                  refine gx_callV C (ct_Mo_here (gx_l K) D dA ad h F1 L1 S1 (rs_X_t hw1.2.2.2.2.2 (hfr 14 (by decide) (by decide)) hX) h15 (by omega)) me_Mo_here ml_Mo_200 mn_Mo_here _ (gx_w_at (by decide) mo_h_43) rfl dd_Mo_parse_72 (kk := fun v w hq => ?_)
                  obtain ⟨rfl, rfl⟩ := hq
                  refine gx_bipush (v := nI 115) C dd_Mo_parse_75 (kk := ?_)
                  refine gx_icmp_eq C 89 dd_Mo_parse_77 (fun h77 => absurd ((nI_eq (by omega) (by decide)).mp h77) (by omega)) (fun h77 => ?_)
                  refine gx_aload_n C 0 dd_Mo_parse_80 (kk := ?_)
                  refine gx_callV C (ct_Mo_here (gx_l K) D dA ad h F1 L1 S1 (rs_X_t hw1.2.2.2.2.2 (hfr 14 (by decide) (by decide)) hX) h15 (by omega)) me_Mo_here ml_Mo_200 mn_Mo_here _ (gx_w_at (by decide) mo_h_43) rfl dd_Mo_parse_81 (kk := fun v w hq => ?_)
                  obtain ⟨rfl, rfl⟩ := hq
                  refine gx_bipush (v := nI 102) C dd_Mo_parse_84 (kk := ?_)
                  refine gx_icmp_ne C 110 dd_Mo_parse_86 (fun h86 => ?_) (fun h86 => absurd ((nI_eq (by omega) (by decide)).mp h86) (by omega))
                  refine gx_aload_n C 0 dd_Mo_parse_110 (kk := ?_)
                  refine gx_callV C (ct_Mo_parseArc (gx_l K) D dA ad h F1 L1 S1 (rs_X_t hw1.2.2.2.2.2 (hfr 14 (by decide) (by decide)) hX) h15 (by omega) h16 hMa hoka) me_Mo_parseArc ml_Mo_237 mn_Mo_parseArc _ (gx_w_at (by decide) mo_h_43) rfl dd_Mo_parse_111 (kk := fun v w hq => ?_)
                  obtain ⟨rfl, F3, L3, S3, rfl, hw3, hfr3, hmi⟩ := hq
                  refine gx_goto C 53 dd_Mo_parse_114 (kk := ?_)
                  have hit : pr_it σ.2.2 a k0 = pr_ar σ.2.2 a k0 := by
                    unfold pr_it
                    rw [if_neg hc1, if_neg hc2]
                  rw [← hit] at hmi
                  have hw4 := mo_w_tr hw1 hw3
                  have hfr4 := mp_tr hfr hfr3
                  rcases hpi : pr_it σ.2.2 a k0 with f | ⟨k2, b⟩
                  · rw [hpi] at hmi
                    exact bad F3 L3 S3 f hw4 hfr4 hmi.1 hmi.2 (by rw [hE, pr_lp_s hkl, pr_bdl hpi])
                  · rw [hpi] at hmi
                    have hr2 := pr_it_r hpi
                    exact ih k2 b F3 L3 S3 hw4 hfr4 hmi.2.1 hr2.2.1 (by omega) hmi.1 hmi.2.2 (pr_it_ok hpi hoka) (by rw [hE, pr_lp_s hkl, pr_bdr hpi])
          have hs0 : pr_s0 σ.2.2 = .inr (k_2, (x_1.2, none, (fun _ => none), [])) := by
            unfold pr_s0
            rw [pr_bdr e_0, pr_bdr e_1, pr_bdr e_2]
          exact loop 1600 k_2 _ F52 L4 S_2 hw5 fr_2 h15_2 (by omega) (by omega) h16_2 (mo_is_n hF52 hM4) (pr_s0_ok hs0) (by unfold pr_all; rw [pr_bdr hs0])
