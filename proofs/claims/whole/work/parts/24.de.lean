theorem dd_De_isNext_0 : decode cc_De_isNext 0 = .ok (.iconst 0, 1) := by decide +kernel
theorem dd_De_isNext_1 : decode cc_De_isNext 1 = .ok (.istore_n 2, 1) := by decide +kernel
theorem dd_De_isNext_2 : decode cc_De_isNext 2 = .ok (.iload_n 2, 1) := by decide +kernel
theorem dd_De_isNext_3 : decode cc_De_isNext 3 = .ok (.bipush 16, 2) := by decide +kernel
theorem dd_De_isNext_5 : decode cc_De_isNext 5 = .ok (.if_icmp .ge 32, 3) := by decide +kernel
theorem dd_De_isNext_8 : decode cc_De_isNext 8 = .ok (.aload_n 0, 1) := by decide +kernel
theorem dd_De_isNext_9 : decode cc_De_isNext 9 = .ok (.getfield 9, 3) := by decide +kernel
theorem dd_De_isNext_12 : decode cc_De_isNext 12 = .ok (.iload_n 1, 1) := by decide +kernel
theorem dd_De_isNext_13 : decode cc_De_isNext 13 = .ok (.bipush 16, 2) := by decide +kernel
theorem dd_De_isNext_15 : decode cc_De_isNext 15 = .ok (.imul, 1) := by decide +kernel
theorem dd_De_isNext_16 : decode cc_De_isNext 16 = .ok (.iload_n 2, 1) := by decide +kernel
theorem dd_De_isNext_17 : decode cc_De_isNext 17 = .ok (.iadd, 1) := by decide +kernel
theorem dd_De_isNext_18 : decode cc_De_isNext 18 = .ok (.laload, 1) := by decide +kernel
theorem dd_De_isNext_19 : decode cc_De_isNext 19 = .ok (.aload_n 0, 1) := by decide +kernel
theorem dd_De_isNext_20 : decode cc_De_isNext 20 = .ok (.getfield 15, 3) := by decide +kernel
theorem dd_De_isNext_23 : decode cc_De_isNext 23 = .ok (.iload_n 2, 1) := by decide +kernel
theorem dd_De_isNext_24 : decode cc_De_isNext 24 = .ok (.laload, 1) := by decide +kernel
theorem dd_De_isNext_25 : decode cc_De_isNext 25 = .ok (.lcmp, 1) := by decide +kernel
theorem dd_De_isNext_26 : decode cc_De_isNext 26 = .ok (.ifCond .eq 5, 3) := by decide +kernel
theorem dd_De_isNext_29 : decode cc_De_isNext 29 = .ok (.iconst 0, 1) := by decide +kernel
theorem dd_De_isNext_30 : decode cc_De_isNext 30 = .ok (.ireturn, 1) := by decide +kernel
theorem dd_De_isNext_31 : decode cc_De_isNext 31 = .ok (.iinc 2 1, 3) := by decide +kernel
theorem dd_De_isNext_34 : decode cc_De_isNext 34 = .ok (.goto (-32), 3) := by decide +kernel
theorem dd_De_isNext_37 : decode cc_De_isNext 37 = .ok (.iconst 1, 1) := by decide +kernel
theorem dd_De_isNext_38 : decode cc_De_isNext 38 = .ok (.ireturn, 1) := by decide +kernel
theorem dd_De_findNext_0 : decode cc_De_findNext 0 = .ok (.iconst 0, 1) := by decide +kernel
theorem dd_De_findNext_1 : decode cc_De_findNext 1 = .ok (.istore_n 1, 1) := by decide +kernel
theorem dd_De_findNext_2 : decode cc_De_findNext 2 = .ok (.iload_n 1, 1) := by decide +kernel
theorem dd_De_findNext_3 : decode cc_De_findNext 3 = .ok (.aload_n 0, 1) := by decide +kernel
theorem dd_De_findNext_4 : decode cc_De_findNext 4 = .ok (.getfield 22, 3) := by decide +kernel
theorem dd_De_findNext_7 : decode cc_De_findNext 7 = .ok (.getfield 55, 3) := by decide +kernel
theorem dd_De_findNext_10 : decode cc_De_findNext 10 = .ok (.if_icmp .ge 19, 3) := by decide +kernel
theorem dd_De_findNext_13 : decode cc_De_findNext 13 = .ok (.aload_n 0, 1) := by decide +kernel
theorem dd_De_findNext_14 : decode cc_De_findNext 14 = .ok (.iload_n 1, 1) := by decide +kernel
theorem dd_De_findNext_15 : decode cc_De_findNext 15 = .ok (.invokevirtual 114, 3) := by decide +kernel
theorem dd_De_findNext_18 : decode cc_De_findNext 18 = .ok (.ifCond .eq 5, 3) := by decide +kernel
theorem dd_De_findNext_21 : decode cc_De_findNext 21 = .ok (.iload_n 1, 1) := by decide +kernel
theorem dd_De_findNext_22 : decode cc_De_findNext 22 = .ok (.ireturn, 1) := by decide +kernel
theorem dd_De_findNext_23 : decode cc_De_findNext 23 = .ok (.iinc 1 1, 3) := by decide +kernel
theorem dd_De_findNext_26 : decode cc_De_findNext 26 = .ok (.goto (-24), 3) := by decide +kernel
theorem dd_De_findNext_29 : decode cc_De_findNext 29 = .ok (.aload_n 0, 1) := by decide +kernel
theorem dd_De_findNext_30 : decode cc_De_findNext 30 = .ok (.getfield 22, 3) := by decide +kernel
theorem dd_De_findNext_33 : decode cc_De_findNext 33 = .ok (.getfield 55, 3) := by decide +kernel
theorem dd_De_findNext_36 : decode cc_De_findNext 36 = .ok (.bipush 16, 2) := by decide +kernel
theorem dd_De_findNext_38 : decode cc_De_findNext 38 = .ok (.if_icmp .lt 5, 3) := by decide +kernel
theorem dd_De_findNext_41 : decode cc_De_findNext 41 = .ok (.iconst (-1), 1) := by decide +kernel
theorem dd_De_findNext_42 : decode cc_De_findNext 42 = .ok (.ireturn, 1) := by decide +kernel
theorem dd_De_findNext_43 : decode cc_De_findNext 43 = .ok (.aload_n 0, 1) := by decide +kernel
theorem dd_De_findNext_44 : decode cc_De_findNext 44 = .ok (.getfield 15, 3) := by decide +kernel
theorem dd_De_findNext_47 : decode cc_De_findNext 47 = .ok (.iconst 0, 1) := by decide +kernel
theorem dd_De_findNext_48 : decode cc_De_findNext 48 = .ok (.aload_n 0, 1) := by decide +kernel
theorem dd_De_findNext_49 : decode cc_De_findNext 49 = .ok (.getfield 9, 3) := by decide +kernel
theorem dd_De_findNext_52 : decode cc_De_findNext 52 = .ok (.aload_n 0, 1) := by decide +kernel
theorem dd_De_findNext_53 : decode cc_De_findNext 53 = .ok (.getfield 22, 3) := by decide +kernel
theorem dd_De_findNext_56 : decode cc_De_findNext 56 = .ok (.getfield 55, 3) := by decide +kernel
theorem dd_De_findNext_59 : decode cc_De_findNext 59 = .ok (.bipush 16, 2) := by decide +kernel
theorem dd_De_findNext_61 : decode cc_De_findNext 61 = .ok (.imul, 1) := by decide +kernel
theorem dd_De_findNext_62 : decode cc_De_findNext 62 = .ok (.bipush 16, 2) := by decide +kernel
theorem dd_De_findNext_64 : decode cc_De_findNext 64 = .ok (.invokestatic 118, 3) := by decide +kernel
theorem dd_De_findNext_67 : decode cc_De_findNext 67 = .ok (.aload_n 0, 1) := by decide +kernel
theorem dd_De_findNext_68 : decode cc_De_findNext 68 = .ok (.getfield 22, 3) := by decide +kernel
theorem dd_De_findNext_71 : decode cc_De_findNext 71 = .ok (.dup, 1) := by decide +kernel
theorem dd_De_findNext_72 : decode cc_De_findNext 72 = .ok (.getfield 55, 3) := by decide +kernel
theorem dd_De_findNext_75 : decode cc_De_findNext 75 = .ok (.iconst 1, 1) := by decide +kernel
theorem dd_De_findNext_76 : decode cc_De_findNext 76 = .ok (.iadd, 1) := by decide +kernel
theorem dd_De_findNext_77 : decode cc_De_findNext 77 = .ok (.putfield 55, 3) := by decide +kernel
theorem dd_De_findNext_80 : decode cc_De_findNext 80 = .ok (.aload_n 0, 1) := by decide +kernel
theorem dd_De_findNext_81 : decode cc_De_findNext 81 = .ok (.getfield 22, 3) := by decide +kernel
theorem dd_De_findNext_84 : decode cc_De_findNext 84 = .ok (.getfield 55, 3) := by decide +kernel
theorem dd_De_findNext_87 : decode cc_De_findNext 87 = .ok (.iconst 1, 1) := by decide +kernel
theorem dd_De_findNext_88 : decode cc_De_findNext 88 = .ok (.isub, 1) := by decide +kernel
theorem dd_De_findNext_89 : decode cc_De_findNext 89 = .ok (.ireturn, 1) := by decide +kernel
theorem dd_De_sumUp_0 : decode cc_De_sumUp 0 = .ok (.aload_n 0, 1) := by decide +kernel
theorem dd_De_sumUp_1 : decode cc_De_sumUp 1 = .ok (.getfield 15, 3) := by decide +kernel
theorem dd_De_sumUp_4 : decode cc_De_sumUp 4 = .ok (.ldc2_w 35, 3) := by decide +kernel
theorem dd_De_sumUp_7 : decode cc_De_sumUp 7 = .ok (.invokestatic 37, 3) := by decide +kernel
theorem dd_De_sumUp_10 : decode cc_De_sumUp 10 = .ok (.ldc2_w 35, 3) := by decide +kernel
theorem dd_De_sumUp_13 : decode cc_De_sumUp 13 = .ok (.lstore_n 3, 1) := by decide +kernel
theorem dd_De_sumUp_14 : decode cc_De_sumUp 14 = .ok (.iconst 0, 1) := by decide +kernel
theorem dd_De_sumUp_15 : decode cc_De_sumUp 15 = .ok (.istore 5, 2) := by decide +kernel
theorem dd_De_sumUp_17 : decode cc_De_sumUp 17 = .ok (.iload 5, 2) := by decide +kernel
theorem dd_De_sumUp_19 : decode cc_De_sumUp 19 = .ok (.aload_n 0, 1) := by decide +kernel
theorem dd_De_sumUp_20 : decode cc_De_sumUp 20 = .ok (.getfield 18, 3) := by decide +kernel
theorem dd_De_sumUp_23 : decode cc_De_sumUp 23 = .ok (.getfield 94, 3) := by decide +kernel
theorem dd_De_sumUp_26 : decode cc_De_sumUp 26 = .ok (.if_icmp .ge 93, 3) := by decide +kernel
theorem dd_De_sumUp_29 : decode cc_De_sumUp 29 = .ok (.aload_n 0, 1) := by decide +kernel
theorem dd_De_sumUp_30 : decode cc_De_sumUp 30 = .ok (.getfield 18, 3) := by decide +kernel
theorem dd_De_sumUp_33 : decode cc_De_sumUp 33 = .ok (.getfield 97, 3) := by decide +kernel
theorem dd_De_sumUp_36 : decode cc_De_sumUp 36 = .ok (.iload 5, 2) := by decide +kernel
theorem dd_De_sumUp_38 : decode cc_De_sumUp 38 = .ok (.iaload, 1) := by decide +kernel
theorem dd_De_sumUp_39 : decode cc_De_sumUp 39 = .ok (.istore 6, 2) := by decide +kernel
theorem dd_De_sumUp_41 : decode cc_De_sumUp 41 = .ok (.aload_n 0, 1) := by decide +kernel
theorem dd_De_sumUp_42 : decode cc_De_sumUp 42 = .ok (.getfield 9, 3) := by decide +kernel
theorem dd_De_sumUp_45 : decode cc_De_sumUp 45 = .ok (.iload_n 1, 1) := by decide +kernel
theorem dd_De_sumUp_46 : decode cc_De_sumUp 46 = .ok (.bipush 16, 2) := by decide +kernel
theorem dd_De_sumUp_48 : decode cc_De_sumUp 48 = .ok (.imul, 1) := by decide +kernel
theorem dd_De_sumUp_49 : decode cc_De_sumUp 49 = .ok (.iload 6, 2) := by decide +kernel
theorem dd_De_sumUp_51 : decode cc_De_sumUp 51 = .ok (.invokestatic 101, 3) := by decide +kernel
theorem dd_De_sumUp_54 : decode cc_De_sumUp 54 = .ok (.iadd, 1) := by decide +kernel
theorem dd_De_sumUp_55 : decode cc_De_sumUp 55 = .ok (.laload, 1) := by decide +kernel
theorem dd_De_sumUp_56 : decode cc_De_sumUp 56 = .ok (.aload_n 0, 1) := by decide +kernel
theorem dd_De_sumUp_57 : decode cc_De_sumUp 57 = .ok (.getfield 18, 3) := by decide +kernel
theorem dd_De_sumUp_60 : decode cc_De_sumUp 60 = .ok (.getfield 105, 3) := by decide +kernel
theorem dd_De_sumUp_63 : decode cc_De_sumUp 63 = .ok (.iload 5, 2) := by decide +kernel
theorem dd_De_sumUp_65 : decode cc_De_sumUp 65 = .ok (.laload, 1) := by decide +kernel
theorem dd_De_sumUp_66 : decode cc_De_sumUp 66 = .ok (.ladd, 1) := by decide +kernel
theorem dd_De_sumUp_67 : decode cc_De_sumUp 67 = .ok (.lstore 7, 2) := by decide +kernel
theorem dd_De_sumUp_69 : decode cc_De_sumUp 69 = .ok (.iload 6, 2) := by decide +kernel
theorem dd_De_sumUp_71 : decode cc_De_sumUp 71 = .ok (.invokestatic 108, 3) := by decide +kernel
theorem dd_De_sumUp_74 : decode cc_De_sumUp 74 = .ok (.iload_n 2, 1) := by decide +kernel
theorem dd_De_sumUp_75 : decode cc_De_sumUp 75 = .ok (.if_icmp .ne 38, 3) := by decide +kernel
theorem dd_De_sumUp_78 : decode cc_De_sumUp 78 = .ok (.lload 7, 2) := by decide +kernel
theorem dd_De_sumUp_80 : decode cc_De_sumUp 80 = .ok (.aload_n 0, 1) := by decide +kernel
theorem dd_De_sumUp_81 : decode cc_De_sumUp 81 = .ok (.getfield 15, 3) := by decide +kernel
theorem dd_De_sumUp_84 : decode cc_De_sumUp 84 = .ok (.iload 6, 2) := by decide +kernel
theorem dd_De_sumUp_86 : decode cc_De_sumUp 86 = .ok (.invokestatic 111, 3) := by decide +kernel
theorem dd_De_sumUp_89 : decode cc_De_sumUp 89 = .ok (.laload, 1) := by decide +kernel
theorem dd_De_sumUp_90 : decode cc_De_sumUp 90 = .ok (.lcmp, 1) := by decide +kernel
theorem dd_De_sumUp_91 : decode cc_De_sumUp 91 = .ok (.ifCond .ge 22, 3) := by decide +kernel
theorem dd_De_sumUp_94 : decode cc_De_sumUp 94 = .ok (.aload_n 0, 1) := by decide +kernel
theorem dd_De_sumUp_95 : decode cc_De_sumUp 95 = .ok (.getfield 15, 3) := by decide +kernel
theorem dd_De_sumUp_98 : decode cc_De_sumUp 98 = .ok (.iload 6, 2) := by decide +kernel
theorem dd_De_sumUp_100 : decode cc_De_sumUp 100 = .ok (.invokestatic 111, 3) := by decide +kernel
theorem dd_De_sumUp_103 : decode cc_De_sumUp 103 = .ok (.lload 7, 2) := by decide +kernel
theorem dd_De_sumUp_105 : decode cc_De_sumUp 105 = .ok (.lastore, 1) := by decide +kernel
theorem dd_De_sumUp_106 : decode cc_De_sumUp 106 = .ok (.lload_n 3, 1) := by decide +kernel
theorem dd_De_sumUp_107 : decode cc_De_sumUp 107 = .ok (.lload 7, 2) := by decide +kernel
theorem dd_De_sumUp_109 : decode cc_De_sumUp 109 = .ok (.invokestatic 72, 3) := by decide +kernel
theorem dd_De_sumUp_112 : decode cc_De_sumUp 112 = .ok (.lstore_n 3, 1) := by decide +kernel
theorem dd_De_sumUp_113 : decode cc_De_sumUp 113 = .ok (.iinc 5 1, 3) := by decide +kernel
theorem dd_De_sumUp_116 : decode cc_De_sumUp 116 = .ok (.goto (-99), 3) := by decide +kernel
theorem dd_De_sumUp_119 : decode cc_De_sumUp 119 = .ok (.lload_n 3, 1) := by decide +kernel
theorem dd_De_sumUp_120 : decode cc_De_sumUp 120 = .ok (.lreturn, 1) := by decide +kernel
theorem dd_De_leastEnd_0 : decode cc_De_leastEnd 0 = .ok (.ldc2_w 35, 3) := by decide +kernel
theorem dd_De_leastEnd_3 : decode cc_De_leastEnd 3 = .ok (.lstore_n 2, 1) := by decide +kernel
theorem dd_De_leastEnd_4 : decode cc_De_leastEnd 4 = .ok (.iconst 0, 1) := by decide +kernel
theorem dd_De_leastEnd_5 : decode cc_De_leastEnd 5 = .ok (.istore 4, 2) := by decide +kernel
theorem dd_De_leastEnd_7 : decode cc_De_leastEnd 7 = .ok (.iload 4, 2) := by decide +kernel
theorem dd_De_leastEnd_9 : decode cc_De_leastEnd 9 = .ok (.aload_n 0, 1) := by decide +kernel
theorem dd_De_leastEnd_10 : decode cc_De_leastEnd 10 = .ok (.getfield 18, 3) := by decide +kernel
theorem dd_De_leastEnd_13 : decode cc_De_leastEnd 13 = .ok (.getfield 55, 3) := by decide +kernel
theorem dd_De_leastEnd_16 : decode cc_De_leastEnd 16 = .ok (.if_icmp .ge 36, 3) := by decide +kernel
theorem dd_De_leastEnd_19 : decode cc_De_leastEnd 19 = .ok (.lload_n 2, 1) := by decide +kernel
theorem dd_De_leastEnd_20 : decode cc_De_leastEnd 20 = .ok (.aload_n 0, 1) := by decide +kernel
theorem dd_De_leastEnd_21 : decode cc_De_leastEnd 21 = .ok (.getfield 9, 3) := by decide +kernel
theorem dd_De_leastEnd_24 : decode cc_De_leastEnd 24 = .ok (.iload_n 1, 1) := by decide +kernel
theorem dd_De_leastEnd_25 : decode cc_De_leastEnd 25 = .ok (.bipush 16, 2) := by decide +kernel
theorem dd_De_leastEnd_27 : decode cc_De_leastEnd 27 = .ok (.imul, 1) := by decide +kernel
theorem dd_De_leastEnd_28 : decode cc_De_leastEnd 28 = .ok (.iload 4, 2) := by decide +kernel
theorem dd_De_leastEnd_30 : decode cc_De_leastEnd 30 = .ok (.iadd, 1) := by decide +kernel
theorem dd_De_leastEnd_31 : decode cc_De_leastEnd 31 = .ok (.laload, 1) := by decide +kernel
theorem dd_De_leastEnd_32 : decode cc_De_leastEnd 32 = .ok (.aload_n 0, 1) := by decide +kernel
theorem dd_De_leastEnd_33 : decode cc_De_leastEnd 33 = .ok (.getfield 18, 3) := by decide +kernel
theorem dd_De_leastEnd_36 : decode cc_De_leastEnd 36 = .ok (.iload 4, 2) := by decide +kernel
theorem dd_De_leastEnd_38 : decode cc_De_leastEnd 38 = .ok (.invokevirtual 69, 3) := by decide +kernel
theorem dd_De_leastEnd_41 : decode cc_De_leastEnd 41 = .ok (.ladd, 1) := by decide +kernel
theorem dd_De_leastEnd_42 : decode cc_De_leastEnd 42 = .ok (.invokestatic 72, 3) := by decide +kernel
theorem dd_De_leastEnd_45 : decode cc_De_leastEnd 45 = .ok (.lstore_n 2, 1) := by decide +kernel
theorem dd_De_leastEnd_46 : decode cc_De_leastEnd 46 = .ok (.iinc 4 1, 3) := by decide +kernel
theorem dd_De_leastEnd_49 : decode cc_De_leastEnd 49 = .ok (.goto (-42), 3) := by decide +kernel
theorem dd_De_leastEnd_52 : decode cc_De_leastEnd 52 = .ok (.lload_n 2, 1) := by decide +kernel
theorem dd_De_leastEnd_53 : decode cc_De_leastEnd 53 = .ok (.lreturn, 1) := by decide +kernel
theorem dd_De_leave_0 : decode cc_De_leave 0 = .ok (.aload_n 0, 1) := by decide +kernel
theorem dd_De_leave_1 : decode cc_De_leave 1 = .ok (.iload_n 1, 1) := by decide +kernel
theorem dd_De_leave_2 : decode cc_De_leave 2 = .ok (.iload_n 2, 1) := by decide +kernel
theorem dd_De_leave_3 : decode cc_De_leave 3 = .ok (.invokevirtual 78, 3) := by decide +kernel
theorem dd_De_leave_6 : decode cc_De_leave 6 = .ok (.lstore_n 3, 1) := by decide +kernel
theorem dd_De_leave_7 : decode cc_De_leave 7 = .ok (.lload_n 3, 1) := by decide +kernel
theorem dd_De_leave_8 : decode cc_De_leave 8 = .ok (.ldc2_w 35, 3) := by decide +kernel
theorem dd_De_leave_11 : decode cc_De_leave 11 = .ok (.lcmp, 1) := by decide +kernel
theorem dd_De_leave_12 : decode cc_De_leave 12 = .ok (.ifCond .lt 5, 3) := by decide +kernel
theorem dd_De_leave_15 : decode cc_De_leave 15 = .ok (.iconst 1, 1) := by decide +kernel
theorem dd_De_leave_16 : decode cc_De_leave 16 = .ok (.ireturn, 1) := by decide +kernel
theorem dd_De_leave_17 : decode cc_De_leave 17 = .ok (.iconst 0, 1) := by decide +kernel
theorem dd_De_leave_18 : decode cc_De_leave 18 = .ok (.istore 5, 2) := by decide +kernel
theorem dd_De_leave_20 : decode cc_De_leave 20 = .ok (.iload 5, 2) := by decide +kernel
theorem dd_De_leave_22 : decode cc_De_leave 22 = .ok (.bipush 16, 2) := by decide +kernel
theorem dd_De_leave_24 : decode cc_De_leave 24 = .ok (.if_icmp .ge 45, 3) := by decide +kernel
theorem dd_De_leave_27 : decode cc_De_leave 27 = .ok (.aload_n 0, 1) := by decide +kernel
theorem dd_De_leave_28 : decode cc_De_leave 28 = .ok (.getfield 15, 3) := by decide +kernel
theorem dd_De_leave_31 : decode cc_De_leave 31 = .ok (.iload 5, 2) := by decide +kernel
theorem dd_De_leave_33 : decode cc_De_leave 33 = .ok (.aload_n 0, 1) := by decide +kernel
theorem dd_De_leave_34 : decode cc_De_leave 34 = .ok (.getfield 15, 3) := by decide +kernel
theorem dd_De_leave_37 : decode cc_De_leave 37 = .ok (.iload 5, 2) := by decide +kernel
theorem dd_De_leave_39 : decode cc_De_leave 39 = .ok (.laload, 1) := by decide +kernel
theorem dd_De_leave_40 : decode cc_De_leave 40 = .ok (.ldc2_w 35, 3) := by decide +kernel
theorem dd_De_leave_43 : decode cc_De_leave 43 = .ok (.lcmp, 1) := by decide +kernel
theorem dd_De_leave_44 : decode cc_De_leave 44 = .ok (.ifCond .ge 15, 3) := by decide +kernel
theorem dd_De_leave_47 : decode cc_De_leave 47 = .ok (.aload_n 0, 1) := by decide +kernel
theorem dd_De_leave_48 : decode cc_De_leave 48 = .ok (.getfield 15, 3) := by decide +kernel
theorem dd_De_leave_51 : decode cc_De_leave 51 = .ok (.iload 5, 2) := by decide +kernel
theorem dd_De_leave_53 : decode cc_De_leave 53 = .ok (.laload, 1) := by decide +kernel
theorem dd_De_leave_54 : decode cc_De_leave 54 = .ok (.lload_n 3, 1) := by decide +kernel
theorem dd_De_leave_55 : decode cc_De_leave 55 = .ok (.lsub, 1) := by decide +kernel
theorem dd_De_leave_56 : decode cc_De_leave 56 = .ok (.goto 6, 3) := by decide +kernel
theorem dd_De_leave_59 : decode cc_De_leave 59 = .ok (.ldc2_w 35, 3) := by decide +kernel
theorem dd_De_leave_62 : decode cc_De_leave 62 = .ok (.lastore, 1) := by decide +kernel
theorem dd_De_leave_63 : decode cc_De_leave 63 = .ok (.iinc 5 1, 3) := by decide +kernel
theorem dd_De_leave_66 : decode cc_De_leave 66 = .ok (.goto (-46), 3) := by decide +kernel
theorem dd_De_leave_69 : decode cc_De_leave 69 = .ok (.aload_n 0, 1) := by decide +kernel
theorem dd_De_leave_70 : decode cc_De_leave 70 = .ok (.invokevirtual 43, 3) := by decide +kernel
theorem dd_De_leave_73 : decode cc_De_leave 73 = .ok (.istore 5, 2) := by decide +kernel
theorem dd_De_leave_75 : decode cc_De_leave 75 = .ok (.iload 5, 2) := by decide +kernel
theorem dd_De_leave_77 : decode cc_De_leave 77 = .ok (.iconst (-1), 1) := by decide +kernel
theorem dd_De_leave_78 : decode cc_De_leave 78 = .ok (.if_icmp .eq 29, 3) := by decide +kernel
theorem dd_De_leave_81 : decode cc_De_leave 81 = .ok (.aload_n 0, 1) := by decide +kernel
theorem dd_De_leave_82 : decode cc_De_leave 82 = .ok (.getfield 22, 3) := by decide +kernel
theorem dd_De_leave_85 : decode cc_De_leave 85 = .ok (.iload_n 1, 1) := by decide +kernel
theorem dd_De_leave_86 : decode cc_De_leave 86 = .ok (.iload_n 2, 1) := by decide +kernel
theorem dd_De_leave_87 : decode cc_De_leave 87 = .ok (.iload_n 2, 1) := by decide +kernel
theorem dd_De_leave_88 : decode cc_De_leave 88 = .ok (.invokestatic 82, 3) := by decide +kernel
theorem dd_De_leave_91 : decode cc_De_leave 91 = .ok (.iload 5, 2) := by decide +kernel
theorem dd_De_leave_93 : decode cc_De_leave 93 = .ok (.invokestatic 86, 3) := by decide +kernel
theorem dd_De_leave_96 : decode cc_De_leave 96 = .ok (.lload_n 3, 1) := by decide +kernel
theorem dd_De_leave_97 : decode cc_De_leave 97 = .ok (.invokevirtual 90, 3) := by decide +kernel
theorem dd_De_leave_100 : decode cc_De_leave 100 = .ok (.ifCond .eq 7, 3) := by decide +kernel
theorem dd_De_leave_103 : decode cc_De_leave 103 = .ok (.iconst 1, 1) := by decide +kernel
theorem dd_De_leave_104 : decode cc_De_leave 104 = .ok (.goto 4, 3) := by decide +kernel
theorem dd_De_leave_107 : decode cc_De_leave 107 = .ok (.iconst 0, 1) := by decide +kernel
theorem dd_De_leave_108 : decode cc_De_leave 108 = .ok (.ireturn, 1) := by decide +kernel
theorem dd_De_build_0 : decode cc_De_build 0 = .ok (.aload_n 0, 1) := by decide +kernel
theorem dd_De_build_1 : decode cc_De_build 1 = .ok (.aload_n 1, 1) := by decide +kernel
theorem dd_De_build_2 : decode cc_De_build 2 = .ok (.putfield 18, 3) := by decide +kernel
theorem dd_De_build_5 : decode cc_De_build 5 = .ok (.aload_n 0, 1) := by decide +kernel
theorem dd_De_build_6 : decode cc_De_build 6 = .ok (.aload_n 2, 1) := by decide +kernel
theorem dd_De_build_7 : decode cc_De_build 7 = .ok (.putfield 22, 3) := by decide +kernel
theorem dd_De_build_10 : decode cc_De_build 10 = .ok (.aload_n 0, 1) := by decide +kernel
theorem dd_De_build_11 : decode cc_De_build 11 = .ok (.getfield 22, 3) := by decide +kernel
theorem dd_De_build_14 : decode cc_De_build 14 = .ok (.iconst 0, 1) := by decide +kernel
theorem dd_De_build_15 : decode cc_De_build 15 = .ok (.invokevirtual 25, 3) := by decide +kernel
theorem dd_De_build_18 : decode cc_De_build 18 = .ok (.aload_n 1, 1) := by decide +kernel
theorem dd_De_build_19 : decode cc_De_build 19 = .ok (.getfield 31, 3) := by decide +kernel
theorem dd_De_build_22 : decode cc_De_build 22 = .ok (.iconst (-1), 1) := by decide +kernel
theorem dd_De_build_23 : decode cc_De_build 23 = .ok (.if_icmp .ne 5, 3) := by decide +kernel
theorem dd_De_build_26 : decode cc_De_build 26 = .ok (.iconst 1, 1) := by decide +kernel
theorem dd_De_build_27 : decode cc_De_build 27 = .ok (.ireturn, 1) := by decide +kernel
theorem dd_De_build_28 : decode cc_De_build 28 = .ok (.aload_n 0, 1) := by decide +kernel
theorem dd_De_build_29 : decode cc_De_build 29 = .ok (.getfield 15, 3) := by decide +kernel
theorem dd_De_build_32 : decode cc_De_build 32 = .ok (.ldc2_w 35, 3) := by decide +kernel
theorem dd_De_build_35 : decode cc_De_build 35 = .ok (.invokestatic 37, 3) := by decide +kernel
theorem dd_De_build_38 : decode cc_De_build 38 = .ok (.aload_n 0, 1) := by decide +kernel
theorem dd_De_build_39 : decode cc_De_build 39 = .ok (.getfield 15, 3) := by decide +kernel
theorem dd_De_build_42 : decode cc_De_build 42 = .ok (.aload_n 1, 1) := by decide +kernel
theorem dd_De_build_43 : decode cc_De_build 43 = .ok (.getfield 31, 3) := by decide +kernel
theorem dd_De_build_46 : decode cc_De_build 46 = .ok (.lconst 0, 1) := by decide +kernel
theorem dd_De_build_47 : decode cc_De_build 47 = .ok (.lastore, 1) := by decide +kernel
theorem dd_De_build_48 : decode cc_De_build 48 = .ok (.aload_n 0, 1) := by decide +kernel
theorem dd_De_build_49 : decode cc_De_build 49 = .ok (.getfield 22, 3) := by decide +kernel
theorem dd_De_build_52 : decode cc_De_build 52 = .ok (.aload_n 0, 1) := by decide +kernel
theorem dd_De_build_53 : decode cc_De_build 53 = .ok (.invokevirtual 43, 3) := by decide +kernel
theorem dd_De_build_56 : decode cc_De_build 56 = .ok (.aload_n 1, 1) := by decide +kernel
theorem dd_De_build_57 : decode cc_De_build 57 = .ok (.getfield 47, 3) := by decide +kernel
theorem dd_De_build_60 : decode cc_De_build 60 = .ok (.invokevirtual 51, 3) := by decide +kernel
theorem dd_De_build_63 : decode cc_De_build 63 = .ok (.iconst 1, 1) := by decide +kernel
theorem dd_De_build_64 : decode cc_De_build 64 = .ok (.istore_n 3, 1) := by decide +kernel
theorem dd_De_build_65 : decode cc_De_build 65 = .ok (.iconst 0, 1) := by decide +kernel
theorem dd_De_build_66 : decode cc_De_build 66 = .ok (.istore 4, 2) := by decide +kernel
theorem dd_De_build_68 : decode cc_De_build 68 = .ok (.iload 4, 2) := by decide +kernel
theorem dd_De_build_70 : decode cc_De_build 70 = .ok (.bipush 16, 2) := by decide +kernel
theorem dd_De_build_72 : decode cc_De_build 72 = .ok (.if_icmp .ge 69, 3) := by decide +kernel
theorem dd_De_build_75 : decode cc_De_build 75 = .ok (.iload 4, 2) := by decide +kernel
theorem dd_De_build_77 : decode cc_De_build 77 = .ok (.aload_n 0, 1) := by decide +kernel
theorem dd_De_build_78 : decode cc_De_build 78 = .ok (.getfield 22, 3) := by decide +kernel
theorem dd_De_build_81 : decode cc_De_build 81 = .ok (.getfield 55, 3) := by decide +kernel
theorem dd_De_build_84 : decode cc_De_build 84 = .ok (.if_icmp .ge 57, 3) := by decide +kernel
theorem dd_De_build_87 : decode cc_De_build 87 = .ok (.iload_n 3, 1) := by decide +kernel
theorem dd_De_build_88 : decode cc_De_build 88 = .ok (.ifCond .eq 53, 3) := by decide +kernel
theorem dd_De_build_91 : decode cc_De_build 91 = .ok (.aload_n 0, 1) := by decide +kernel
theorem dd_De_build_92 : decode cc_De_build 92 = .ok (.getfield 22, 3) := by decide +kernel
theorem dd_De_build_95 : decode cc_De_build 95 = .ok (.iload 4, 2) := by decide +kernel
theorem dd_De_build_97 : decode cc_De_build 97 = .ok (.aload_n 0, 1) := by decide +kernel
theorem dd_De_build_98 : decode cc_De_build 98 = .ok (.iload 4, 2) := by decide +kernel
theorem dd_De_build_100 : decode cc_De_build 100 = .ok (.invokevirtual 58, 3) := by decide +kernel
theorem dd_De_build_103 : decode cc_De_build 103 = .ok (.invokevirtual 62, 3) := by decide +kernel
theorem dd_De_build_106 : decode cc_De_build 106 = .ok (.iconst 1, 1) := by decide +kernel
theorem dd_De_build_107 : decode cc_De_build 107 = .ok (.istore 5, 2) := by decide +kernel
theorem dd_De_build_109 : decode cc_De_build 109 = .ok (.iload 5, 2) := by decide +kernel
theorem dd_De_build_111 : decode cc_De_build 111 = .ok (.bipush 7, 2) := by decide +kernel
theorem dd_De_build_113 : decode cc_De_build 113 = .ok (.if_icmp .gt 22, 3) := by decide +kernel
theorem dd_De_build_116 : decode cc_De_build 116 = .ok (.iload_n 3, 1) := by decide +kernel
theorem dd_De_build_117 : decode cc_De_build 117 = .ok (.ifCond .eq 18, 3) := by decide +kernel
theorem dd_De_build_120 : decode cc_De_build 120 = .ok (.aload_n 0, 1) := by decide +kernel
theorem dd_De_build_121 : decode cc_De_build 121 = .ok (.iload 4, 2) := by decide +kernel
theorem dd_De_build_123 : decode cc_De_build 123 = .ok (.iload 5, 2) := by decide +kernel
theorem dd_De_build_125 : decode cc_De_build 125 = .ok (.invokevirtual 65, 3) := by decide +kernel
theorem dd_De_build_128 : decode cc_De_build 128 = .ok (.istore_n 3, 1) := by decide +kernel
theorem dd_De_build_129 : decode cc_De_build 129 = .ok (.iinc 5 1, 3) := by decide +kernel
theorem dd_De_build_132 : decode cc_De_build 132 = .ok (.goto (-23), 3) := by decide +kernel
theorem dd_De_build_135 : decode cc_De_build 135 = .ok (.iinc 4 1, 3) := by decide +kernel
theorem dd_De_build_138 : decode cc_De_build 138 = .ok (.goto (-70), 3) := by decide +kernel
theorem dd_De_build_141 : decode cc_De_build 141 = .ok (.iload_n 3, 1) := by decide +kernel
theorem dd_De_build_142 : decode cc_De_build 142 = .ok (.ireturn, 1) := by decide +kernel
/-! DETERMINING: sets as rows of rests, in the order of finding -/
abbrev de_S : Type := List ls_V × List (Nat × Nat)
def de_eq (u v : ls_V) : Bool := (List.range 16).all (fun s => decide (u s = v s))
def de_fd (u : ls_V) (T : List ls_V) : Option (Nat × List ls_V) := match T.findIdx? (fun t => de_eq t u) with
  | some k => some (k, T)
  | none => if T.length < 16 then some (T.length, T ++ [u]) else none
def de_r (v : ls_V) (label : Nat) (s : ls_V × Option Nat) (x : Nat × Nat) : ls_V × Option Nat := if x.1 / 128 % 8 = label ∧ ls_lt (ls_ad (v (x.1 / 1024)) x.2) (s.1 (x.1 % 16)) = true then (va_up s.1 (x.1 % 16) (ls_ad (v (x.1 / 1024)) x.2), om s.2 (ls_ad (v (x.1 / 1024)) x.2)) else s
def de_su (l : List (Nat × Nat)) (v : ls_V) (label : Nat) : ls_V × Option Nat := l.foldl (de_r v label) ((fun _ => none), none)
def de_row (u : ls_V) (w : Nat) : ls_V := fun q => (u q).map (fun d => d - w)
def de_lv (l : List (Nat × Nat)) (s label : Nat) (v : ls_V) (c : de_S) : Option de_S := match (de_su l v label).2 with
  | none => some c
  | some w => (match de_fd (de_row (de_su l v label).1 w) c.1 with
    | none => none
    | some y => if am_rm (s * 1024 + (8 * label + label) * 16 + y.1) c.2 = true then some (y.2, am_in (s * 1024 + (8 * label + label) * 16 + y.1) w c.2) else none)
def de_run (l : List (Nat × Nat)) (s : Nat) (v : ls_V) : Nat → Nat → de_S → Option de_S
  | 0, _, c => some c
  | m + 1, label, c => match de_lv l s label v c with
    | none => none
    | some c2 => de_run l s v m (label + 1) c2
def de_ex (l : List (Nat × Nat)) : Nat → Nat → de_S → Option de_S
  | 0, _, c => some c
  | m + 1, s, c => match c.1[s]? with
    | none => some c
    | some v => (match de_run l s v 7 1 c with
      | none => none
      | some c2 => de_ex l m (s + 1) c2)
def de_es (a : am_T) (T : List ls_V) (s : Nat) : Nat → Option Nat := fun q => if q < s then (match T[q]? with
    | none => none
    | some v => ba_le v (am_en a) (am_n a)) else none
def de_mk (a : am_T) : Option am_T := match am_st a with
  | none => some (0, none, (fun _ => none), [])
  | some x => (match de_ex (am_ar a) 16 0 ([ba_v x.1], []) with
    | none => none
    | some c => some (c.1.length, some (0, x.2), de_es a c.1 c.1.length, c.2))
theorem am_f_inj {x y : Option Nat} (hx : ∀ a, x = some a → a < 2 ^ 60) (hy : ∀ a, y = some a → a < 2 ^ 60) : am_f x = am_f y ↔ x = y := by
  constructor
  · intro h
    rw [am_f_n, am_f_n] at h
    cases x with
    | none =>
      cases y with
      | none => rfl
      | some b =>
        have := hy b rfl
        rw [show am_fn none = 1152921504606846976 from rfl, show am_fn (some b) = b from rfl, pk_lEQ (by decide) (by omega)] at h
        omega
    | some a =>
      have := hx a rfl
      cases y with
      | none =>
        rw [show am_fn none = 1152921504606846976 from rfl, show am_fn (some a) = a from rfl, pk_lEQ (by omega) (by decide)] at h
        omega
      | some b =>
        have := hy b rfl
        rw [show am_fn (some b) = b from rfl, show am_fn (some a) = a from rfl, pk_lEQ (by omega) (by omega)] at h
        rw [h]
  · intro h
    rw [h]
theorem de_eq_f {u v : ls_V} {s : Nat} (hs : s < 16) (h : ¬ u s = v s) : de_eq u v = false := by
  unfold de_eq
  rw [List.all_eq_false]
  exact ⟨s, List.mem_range.mpr hs, by simp [h]⟩
theorem de_eq_t {u v : ls_V} (h : ∀ s, s < 16 → u s = v s) : de_eq u v = true := by
  unfold de_eq
  rw [List.all_eq_true]
  intro s hs
  simp [h s (List.mem_range.mp hs)]
/-- the rows as the cells hold them -/
def de_rs (fr : Nat → Int64) (T : List ls_V) : Prop := ∀ k v, T[k]? = some v → ∀ s, s < 16 → fr (k * 16 + s) = am_f (v s)
def de_tb (T : List ls_V) : Prop := ∀ k v, T[k]? = some v → sp_b (1 + k * 1000000001) v
def de_iv (M : gm_V) (fr : Nat → Int64) (st : Option (Nat × Nat)) (en : Nat → Option Nat) (c : de_S) : Prop := mb_iv M (c.1.length, st, en, c.2) ∧ de_rs fr c.1 ∧ de_tb c.1
def de_fq (v : Option Value) (M : gm_V) (fr : Nat → Int64) (st : Option (Nat × Nat)) (en : Nat → Option Nat) (ar : List (Nat × Nat)) (o : Option (Nat × List ls_V)) : Prop := match o with
  | none => v = some (.int (-1))
  | some y => v = some (.int (nI y.1)) ∧ de_iv M fr st en (y.2, ar) ∧ y.1 < 16
def de_bq (v : Option Value) (M : gm_V) (fr : Nat → Int64) (st : Option (Nat × Nat)) (en : Nat → Option Nat) (o : Option de_S) : Prop := match o with
  | none => v = some (.int (nI 0))
  | some c => v = some (.int (nI 1)) ∧ de_iv M fr st en c
theorem de_fd_at {u t : ls_V} {T : List ls_V} {s : Nat} (h1 : T[s]? = some t) (he : de_eq t u = true) (h2 : ∀ k w, k < s → T[k]? = some w → de_eq w u = false) : de_fd u T = some (s, T) := by
  have : T.findIdx? (fun t => de_eq t u) = some s := by
    obtain ⟨hs, e⟩ := List.getElem?_eq_some_iff.mp h1
    rw [List.findIdx?_eq_some_iff_getElem]
    refine ⟨hs, by rw [e]; exact he, fun j hj => ?_⟩
    have := h2 j T[j] hj (List.getElem?_eq_getElem (by omega))
    simp [this]
  unfold de_fd
  rw [this]
theorem de_fd_no {u : ls_V} {T : List ls_V} (h2 : ∀ k w, k < T.length → T[k]? = some w → de_eq w u = false) : de_fd u T = if T.length < 16 then some (T.length, T ++ [u]) else none := by
  have : T.findIdx? (fun t => de_eq t u) = none := by
    rw [List.findIdx?_eq_none_iff]
    intro w hw
    obtain ⟨k, hk⟩ := List.getElem?_of_mem hw
    exact h2 k w (List.getElem?_eq_some_iff.mp hk).1 hk
  unfold de_fd
  rw [this]
theorem de_tb60 {T : List ls_V} (h : de_tb T) (hl : T.length ≤ 16) {k : Nat} {v : ls_V} (hk : T[k]? = some v) : sp_b 17000000018 v := by
  have := (List.getElem?_eq_some_iff.mp hk).1
  exact sp_b_mono (h k v hk) (by omega)
set_option maxRecDepth 100000 in
set_option maxHeartbeats 4000000 in
theorem ct_De_isNext (l : Launch) (D : va_G) (dA : Nat → ClassId) (ad : Nat → Nat) (mm : Nat → gm_V) (r : Nat → va_E) {ia im s : Nat} (hc26 : r 26 = .inr (3, [.ref (ad (2 + 4 * ia)), .ref (ad (2 + 4 * im)), .ref (ad 27), .ref (ad 28)])) {fr fn : Nat → Int64} (hc27 : r 27 = .inl (dA 1, 256, .inr (.inl fr))) (hc28 : r 28 = .inl (dA 1, 16, .inr (.inl fn))) {t u : ls_V} (hs : s < 16) (hrow : ∀ q, q < 16 → fr (s * 16 + q) = am_f (t q)) (hfn : ∀ q, q < 16 → fn q = am_f (u q)) (ht : sp_b 400000000000000000 t) (hu : sp_b 400000000000000000 u) : gx_Ct l D dA yy_De_isNext cc_De_isNext 3 (some .boolean) 0 0 0 [.ref (ad 26), .int (nI s)] (gx_w ad (gm_h dA ad mm r)) (fun v w => v = some (.int (nI (de_eq t u).toNat)) ∧ w = (gx_w ad (gm_h dA ad mm r))) := by
  refine gx_of (by decide) (Nat.le_of_ble_eq_true rfl) (fun K C _ _ => ?_)
  have loop : ∀ m q, q + m = 16 → (∀ k, k < q → t k = u k) → gx_G K D 3 0 0 2 [(2, .int (nI q)), (0, .ref (ad 26)), (1, .int (nI s))] [] (gx_w ad (gm_h dA ad mm r)) (gx_Z K D dA 0 0 (fun v w => v = some (.int (nI (de_eq t u).toNat)) ∧ w = (gx_w ad (gm_h dA ad mm r)))) := by
    intro m
    induction m with
    | zero =>
      intro q hm hall
      refine gx_iload_n C 0 dd_De_isNext_2 (kk := ?_)
      refine gx_bipush (v := nI 16) C dd_De_isNext_3 (kk := ?_)
      refine gx_icmp_ge C 37 dd_De_isNext_5 (fun h5 => ?_) (fun h5 => absurd (nI_le (a := 16) (b := q) (by omega) (by omega)) h5)
      refine gx_iconst (v := nI 1) C dd_De_isNext_37 (kk := ?_)
      refine gx_zret C dd_De_isNext_38 (by first | rfl | exact fb_nar) ?_
      rw [de_eq_t (fun k hk => hall k (by omega))]
      exact ⟨rfl, rfl⟩
    | succ m ih =>
      intro q hm hall
      refine gx_iload_n C 0 dd_De_isNext_2 (kk := ?_)
      refine gx_bipush (v := nI 16) C dd_De_isNext_3 (kk := ?_)
      refine gx_icmp_ge C 37 dd_De_isNext_5 (fun h5 => absurd h5 (nI_ge (by omega) (by omega))) (fun h5 => ?_)
      refine gx_aload_n C 1 dd_De_isNext_8 (kk := ?_)
      refine gx_get C fd_De_9 (gm_r hc26) dd_De_isNext_9 (kk := ?_)
      refine gx_iload_n C 2 dd_De_isNext_12 (kk := ?_)
      refine gx_bipush (v := nI 16) C dd_De_isNext_13 (kk := ?_)
      refine gx_imul C dd_De_isNext_15 (kk := ?_)
      refine gx_topi _ (pk_mul _ _) ?_
      refine gx_iload_n C 0 dd_De_isNext_16 (kk := ?_)
      refine gx_iadd C dd_De_isNext_17 (kk := ?_)
      refine gx_topi _ (nI_add _ _) ?_
      refine gz_laload C hc27 dd_De_isNext_18 (by omega) (kk := ?_)
      refine gx_topl _ (hrow q (by omega)) ?_
      refine gx_aload_n C 1 dd_De_isNext_19 (kk := ?_)
      refine gx_get C fd_De_15 (gm_r hc26) dd_De_isNext_20 (kk := ?_)
      refine gx_iload_n C 0 dd_De_isNext_23 (kk := ?_)
      refine gz_laload C hc28 dd_De_isNext_24 (by omega) (kk := ?_)
      refine gx_topl _ (hfn q (by omega)) ?_
      refine gx_lcmp C dd_De_isNext_25 (kk := ?_)
      refine gx_if_eq C 31 dd_De_isNext_26 (fun h26 => ?_) (fun h26 => ?_)
      · rw [lc_eq, am_f_inj (fun a h => Nat.lt_of_lt_of_le (ht _ a h) (by decide)) (fun a h => Nat.lt_of_lt_of_le (hu _ a h) (by decide))] at h26
        refine gx_iinc C 0 (nI (q + 1)) _ dd_De_isNext_31 (nI_1 q) (kk := ?_)
        refine gx_goto C 2 dd_De_isNext_34 (kk := ?_)
        exact ih (q + 1) (by omega) (fun k hk => by
          by_cases hkq : k = q
          · subst hkq; exact h26
          · exact hall k (by omega))
      · rw [lc_eq, am_f_inj (fun a h => Nat.lt_of_lt_of_le (ht _ a h) (by decide)) (fun a h => Nat.lt_of_lt_of_le (hu _ a h) (by decide))] at h26
        refine gx_iconst (v := nI 0) C dd_De_isNext_29 (kk := ?_)
        refine gx_zret C dd_De_isNext_30 (by first | rfl | exact fb_nar) ?_
        rw [de_eq_f (s := q) (by omega) h26]
        exact ⟨rfl, rfl⟩
  refine gx_iconst (v := nI 0) C dd_De_isNext_0 (kk := ?_)
  refine gx_istore_n C _ dd_De_isNext_1 (kk := ?_)
  exact loop 16 0 (by omega) (fun k hk => by omega)
set_option maxRecDepth 100000 in
set_option maxHeartbeats 4000000 in
theorem ct_De_findNext (l : Launch) (D : va_G) (dA : Nat → ClassId) (ad : Nat → Nat) (mm : Nat → gm_V) (r : Nat → va_E) {ia im : Nat} (him : im < 5) (hc26 : r 26 = .inr (3, [.ref (ad (2 + 4 * ia)), .ref (ad (2 + 4 * im)), .ref (ad 27), .ref (ad 28)])) {fr fn : Nat → Int64} (hc27 : r 27 = .inl (dA 1, 256, .inr (.inl fr))) (hc28 : r 28 = .inl (dA 1, 16, .inr (.inl fn))) {st : Option (Nat × Nat)} {en : Nat → Option Nat} {c : de_S} {u : ls_V} (hI : de_iv (mm im) fr st en c) (hfn : ∀ q, q < 16 → fn q = am_f (u q)) (hub : sp_b (1 + c.1.length * 1000000001) u) : gx_Ct l D dA yy_De_findNext cc_De_findNext 2 (some .int) 1 0 0 [.ref (ad 26)] (gx_w ad (gm_h dA ad mm r)) (fun v w => ∃ M fr2, w = (gx_w ad (gm_h dA ad (va_up mm im M) (va_up r 27 (.inl (dA 1, 256, .inr (.inl fr2)))))) ∧ de_fq v M fr2 st en c.2 (de_fd u c.1)) := by
  refine gx_of (by decide) (Nat.le_of_ble_eq_true rfl) (fun K C _ _ => ?_)
  have hn16 : c.1.length ≤ 16 := hI.1.2.1.1
  have loop : ∀ m s, s + m = c.1.length → (∀ k w, k < s → c.1[k]? = some w → de_eq w u = false) → gx_G K D 2 0 0 2 [(1, .int (nI s)), (0, .ref (ad 26))] [] (gx_w ad (gm_h dA ad mm r)) (gx_Z K D dA 0 0 (fun v w => ∃ M fr2, w = (gx_w ad (gm_h dA ad (va_up mm im M) (va_up r 27 (.inl (dA 1, 256, .inr (.inl fr2)))))) ∧ de_fq v M fr2 st en c.2 (de_fd u c.1))) := by
    intro m
    induction m with
    | zero =>
      intro s hs hno
      refine gx_iload_n C 0 dd_De_findNext_2 (kk := ?_)
      refine gx_aload_n C 1 dd_De_findNext_3 (kk := ?_)
      refine gx_get C fd_De_22 (gm_r hc26) dd_De_findNext_4 (kk := ?_)
      refine gm_get C fd_De_55 him dd_De_findNext_7 (kk := ?_)
      refine gx_topi (nI c.1.length) hI.1.1.1 ?_
      refine gx_icmp_ge C 29 dd_De_findNext_10 (fun h10 => ?_) (fun h10 => absurd (nI_le (a := c.1.length) (b := s) (by omega) (by omega)) h10)
      refine gx_aload_n C 1 dd_De_findNext_29 (kk := ?_)
      refine gx_get C fd_De_22 (gm_r hc26) dd_De_findNext_30 (kk := ?_)
      refine gm_get C fd_De_55 him dd_De_findNext_33 (kk := ?_)
      refine gx_topi (nI c.1.length) hI.1.1.1 ?_
      refine gx_bipush (v := nI 16) C dd_De_findNext_36 (kk := ?_)
      refine gx_icmp_lt C 43 dd_De_findNext_38 (fun h38 => ?_) (fun h38 => ?_)
      · rw [nI_ltI (by omega) (by decide)] at h38
        refine gx_aload_n C 1 dd_De_findNext_43 (kk := ?_)
        refine gx_get C fd_De_15 (gm_r hc26) dd_De_findNext_44 (kk := ?_)
        refine gx_iconst (v := nI 0) C dd_De_findNext_47 (kk := ?_)
        refine gx_aload_n C 1 dd_De_findNext_48 (kk := ?_)
        refine gx_get C fd_De_9 (gm_r hc26) dd_De_findNext_49 (kk := ?_)
        refine gx_aload_n C 1 dd_De_findNext_52 (kk := ?_)
        refine gx_get C fd_De_22 (gm_r hc26) dd_De_findNext_53 (kk := ?_)
        refine gm_get C fd_De_55 him dd_De_findNext_56 (kk := ?_)
        refine gx_topi (nI c.1.length) hI.1.1.1 ?_
        refine gx_bipush (v := nI 16) C dd_De_findNext_59 (kk := ?_)
        refine gx_imul C dd_De_findNext_61 (kk := ?_)
        refine gx_topi _ (pk_mul _ _) ?_
        refine gx_bipush (v := nI 16) C dd_De_findNext_62 (kk := ?_)
        refine gx_copyl C ml_De_118 (gm_r hc28) (gm_r hc27) (by omega) (by omega) (by decide) (by decide) dd_De_findNext_64 (by decide) (by decide) (kk := ?_)
        rw [gm_upr (by decide)]
        have h26b : va_up r 27 (.inl (dA 1, 256, .inr (.inl (va_cpy fn fr 0 (c.1.length * 16) 16)))) 26 = .inr (3, [.ref (ad (2 + 4 * ia)), .ref (ad (2 + 4 * im)), .ref (ad 27), .ref (ad 28)]) := (gm_un (by decide)).trans hc26
        refine gx_aload_n C 1 dd_De_findNext_67 (kk := ?_)
        refine gx_get C fd_De_22 (gm_r h26b) dd_De_findNext_68 (kk := ?_)
        refine gx_dup C dd_De_findNext_71 (kk := ?_)
        refine gm_get C fd_De_55 him dd_De_findNext_72 (kk := ?_)
        refine gx_topi (nI c.1.length) hI.1.1.1 ?_
        refine gx_iconst (v := nI 1) C dd_De_findNext_75 (kk := ?_)
        refine gx_iadd C dd_De_findNext_76 (kk := ?_)
        refine gx_topi _ (nI_add _ _) ?_
        refine gm_put_nV C fw_De_55 him dd_De_findNext_77 (kk := fun m2 e2 f2 u2 => ?_)
        refine gx_aload_n C 1 dd_De_findNext_80 (kk := ?_)
        refine gx_get C fd_De_22 (gm_r h26b) dd_De_findNext_81 (kk := ?_)
        refine gm_get C fd_De_55 him dd_De_findNext_84 (kk := ?_)
        refine gx_iconst (v := nI 1) C dd_De_findNext_87 (kk := ?_)
        refine gx_isub C dd_De_findNext_88 (kk := ?_)
        refine gx_iret C dd_De_findNext_89 ?_
        refine ⟨m2 im, va_cpy fn fr 0 (c.1.length * 16) 16, ?_, ?_⟩
        · rw [← u2]
        · rw [de_fd_no (fun k w hk hw => hno k w (by omega) hw), if_pos h38]
          refine ⟨?_, ⟨⟨⟨?_, ?_, ?_, ?_, ?_⟩, ?_, hI.1.2.2⟩, ?_, ?_⟩, h38⟩
          · rw [e2]
            show some (Value.int (nI (c.1.length + 1) - nI 1)) = _
            rw [pk_sub (by omega), Nat.add_sub_cancel]
          · rw [e2]
            show nI (c.1.length + 1) = nI (c.1 ++ [u]).length
            simp
          · rw [e2]; exact hI.1.1.2.1
          · rw [e2]; exact hI.1.1.2.2.1
          · rw [e2]; exact hI.1.1.2.2.2.1
          · rw [e2]; exact hI.1.1.2.2.2.2
          · exact ⟨by show (c.1 ++ [u]).length ≤ 16; simp; omega, hI.1.2.1.2⟩
          · intro k w hk q hq
            by_cases hkl : k < c.1.length
            · rw [List.getElem?_append_left hkl] at hk
              rw [pk_cpy_out (by omega)]
              exact hI.2.1 k w hk q hq
            · have hk2 : k = c.1.length := by
                have := (List.getElem?_eq_some_iff.mp hk).1
                simp at this
                omega
              subst hk2
              rw [List.getElem?_append_right (Nat.le_refl _), Nat.sub_self] at hk
              cases hk
              rw [pk_cpy_in (by omega) (by omega), show 0 + (c.1.length * 16 + q - c.1.length * 16) = q by omega]
              exact hfn q hq
          · intro k w hk
            by_cases hkl : k < c.1.length
            · rw [List.getElem?_append_left hkl] at hk
              exact hI.2.2 k w hk
            · have hk2 : k = c.1.length := by
                have := (List.getElem?_eq_some_iff.mp hk).1
                simp at this
                omega
              subst hk2
              rw [List.getElem?_append_right (Nat.le_refl _), Nat.sub_self] at hk
              cases hk
              exact hub
      · refine gx_iconst (v := -1) C dd_De_findNext_41 (kk := ?_)
        refine gx_iret C dd_De_findNext_42 ?_
        refine ⟨mm im, fr, ?_, ?_⟩
        · rw [gm_ue, ← hc27, gm_ue]
        · rw [nI_ltI (by omega) (by decide)] at h38
          rw [de_fd_no (fun k w hk hw => hno k w (by omega) hw), if_neg h38]
          rfl
    | succ m ih =>
      intro s hs hno
      obtain ⟨t, ht⟩ : ∃ t, c.1[s]? = some t := ⟨_, List.getElem?_eq_getElem (by omega)⟩
      refine gx_iload_n C 0 dd_De_findNext_2 (kk := ?_)
      refine gx_aload_n C 1 dd_De_findNext_3 (kk := ?_)
      refine gx_get C fd_De_22 (gm_r hc26) dd_De_findNext_4 (kk := ?_)
      refine gm_get C fd_De_55 him dd_De_findNext_7 (kk := ?_)
      refine gx_topi (nI c.1.length) hI.1.1.1 ?_
      refine gx_icmp_ge C 29 dd_De_findNext_10 (fun h10 => absurd h10 (nI_ge (by omega) (by omega))) (fun h10 => ?_)
      refine gx_aload_n C 1 dd_De_findNext_13 (kk := ?_)
      refine gx_iload_n C 0 dd_De_findNext_14 (kk := ?_)
      refine gx_callV C (ct_De_isNext (gx_l K) D dA ad mm r (s := s) (t := t) (u := u) hc26 hc27 hc28 (by omega) (hI.2.1 s t ht) hfn (sp_b_mono (de_tb60 hI.2.2 hn16 ht) (by decide)) (sp_b_mono hub (by omega))) me_De_isNext ml_De_114 mn_De_isNext _ (gx_w_at (by decide) (gm_r hc26)) rfl dd_De_findNext_15 (kk := fun v w hq => ?_)
      obtain ⟨rfl, rfl⟩ := hq
      rcases hde : de_eq t u with _ | _
      · refine gx_if_eq C 23 dd_De_findNext_18 (fun h18 => ?_) (fun h18 => absurd rfl h18)
        refine gx_iinc C 0 (nI (s + 1)) _ dd_De_findNext_23 (nI_1 s) (kk := ?_)
        refine gx_goto C 2 dd_De_findNext_26 (kk := ?_)
        exact ih (s + 1) (by omega) (fun k w hk hw => by
          by_cases hks : k = s
          · subst hks
            rw [ht] at hw
            cases hw
            exact hde
          · exact hno k w (by omega) hw)
      · refine gx_if_eq C 23 dd_De_findNext_18 (fun h18 => absurd h18 (by decide)) (fun h18 => ?_)
        refine gx_iload_n C 0 dd_De_findNext_21 (kk := ?_)
        refine gx_iret C dd_De_findNext_22 ?_
        refine ⟨mm im, fr, ?_, ?_⟩
        · rw [gm_ue, ← hc27, gm_ue]
        · rw [de_fd_at ht hde hno]
          exact ⟨rfl, hI, by omega⟩
  refine gx_iconst (v := nI 0) C dd_De_findNext_0 (kk := ?_)
  refine gx_istore_n C _ dd_De_findNext_1 (kk := ?_)
  exact loop c.1.length 0 (by omega) (fun k w hk => by omega)
