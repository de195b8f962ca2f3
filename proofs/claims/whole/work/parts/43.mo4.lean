theorem dd_Mo_fresh_0 : decode cc_Mo_fresh 0 = .ok (.iload_n 1, 1) := by decide +kernel
theorem dd_Mo_fresh_1 : decode cc_Mo_fresh 1 = .ok (.invokestatic 81, 3) := by decide +kernel
theorem dd_Mo_fresh_4 : decode cc_Mo_fresh 4 = .ok (.ifCond .eq 13, 3) := by decide +kernel
theorem dd_Mo_fresh_7 : decode cc_Mo_fresh 7 = .ok (.iload_n 2, 1) := by decide +kernel
theorem dd_Mo_fresh_8 : decode cc_Mo_fresh 8 = .ok (.ifCond .lt 9, 3) := by decide +kernel
theorem dd_Mo_fresh_11 : decode cc_Mo_fresh 11 = .ok (.iload_n 2, 1) := by decide +kernel
theorem dd_Mo_fresh_12 : decode cc_Mo_fresh 12 = .ok (.bipush 16, 2) := by decide +kernel
theorem dd_Mo_fresh_14 : decode cc_Mo_fresh 14 = .ok (.if_icmp .le 5, 3) := by decide +kernel
theorem dd_Mo_fresh_17 : decode cc_Mo_fresh 17 = .ok (.iconst 0, 1) := by decide +kernel
theorem dd_Mo_fresh_18 : decode cc_Mo_fresh 18 = .ok (.ireturn, 1) := by decide +kernel
theorem dd_Mo_fresh_19 : decode cc_Mo_fresh 19 = .ok (.aload_n 0, 1) := by decide +kernel
theorem dd_Mo_fresh_20 : decode cc_Mo_fresh 20 = .ok (.iload_n 1, 1) := by decide +kernel
theorem dd_Mo_fresh_21 : decode cc_Mo_fresh 21 = .ok (.iload_n 2, 1) := by decide +kernel
theorem dd_Mo_fresh_22 : decode cc_Mo_fresh 22 = .ok (.invokevirtual 75, 3) := by decide +kernel
theorem dd_Mo_fresh_25 : decode cc_Mo_fresh 25 = .ok (.iconst 1, 1) := by decide +kernel
theorem dd_Mo_fresh_26 : decode cc_Mo_fresh 26 = .ok (.ireturn, 1) := by decide +kernel
theorem dd_Mo_start_0 : decode cc_Mo_start 0 = .ok (.aload_n 0, 1) := by decide +kernel
theorem dd_Mo_start_1 : decode cc_Mo_start 1 = .ok (.iload_n 1, 1) := by decide +kernel
theorem dd_Mo_start_2 : decode cc_Mo_start 2 = .ok (.iload_n 2, 1) := by decide +kernel
theorem dd_Mo_start_3 : decode cc_Mo_start 3 = .ok (.invokevirtual 87, 3) := by decide +kernel
theorem dd_Mo_start_6 : decode cc_Mo_start 6 = .ok (.ifCond .eq 11, 3) := by decide +kernel
theorem dd_Mo_start_9 : decode cc_Mo_start 9 = .ok (.iload_n 3, 1) := by decide +kernel
theorem dd_Mo_start_10 : decode cc_Mo_start 10 = .ok (.i2l, 1) := by decide +kernel
theorem dd_Mo_start_11 : decode cc_Mo_start 11 = .ok (.invokestatic 91, 3) := by decide +kernel
theorem dd_Mo_start_14 : decode cc_Mo_start 14 = .ok (.ifCond .ne 5, 3) := by decide +kernel
theorem dd_Mo_start_17 : decode cc_Mo_start 17 = .ok (.iconst 0, 1) := by decide +kernel
theorem dd_Mo_start_18 : decode cc_Mo_start 18 = .ok (.ireturn, 1) := by decide +kernel
theorem dd_Mo_start_19 : decode cc_Mo_start 19 = .ok (.aload_n 0, 1) := by decide +kernel
theorem dd_Mo_start_20 : decode cc_Mo_start 20 = .ok (.getfield 13, 3) := by decide +kernel
theorem dd_Mo_start_23 : decode cc_Mo_start 23 = .ok (.iload_n 1, 1) := by decide +kernel
theorem dd_Mo_start_24 : decode cc_Mo_start 24 = .ok (.iload_n 2, 1) := by decide +kernel
theorem dd_Mo_start_25 : decode cc_Mo_start 25 = .ok (.iastore, 1) := by decide +kernel
theorem dd_Mo_start_26 : decode cc_Mo_start 26 = .ok (.aload_n 0, 1) := by decide +kernel
theorem dd_Mo_start_27 : decode cc_Mo_start 27 = .ok (.getfield 16, 3) := by decide +kernel
theorem dd_Mo_start_30 : decode cc_Mo_start 30 = .ok (.iload_n 1, 1) := by decide +kernel
theorem dd_Mo_start_31 : decode cc_Mo_start 31 = .ok (.iload_n 3, 1) := by decide +kernel
theorem dd_Mo_start_32 : decode cc_Mo_start 32 = .ok (.i2l, 1) := by decide +kernel
theorem dd_Mo_start_33 : decode cc_Mo_start 33 = .ok (.lastore, 1) := by decide +kernel
theorem dd_Mo_start_34 : decode cc_Mo_start 34 = .ok (.iconst 1, 1) := by decide +kernel
theorem dd_Mo_start_35 : decode cc_Mo_start 35 = .ok (.ireturn, 1) := by decide +kernel
theorem dd_Mo_end_0 : decode cc_Mo_end 0 = .ok (.aload_n 0, 1) := by decide +kernel
theorem dd_Mo_end_1 : decode cc_Mo_end 1 = .ok (.iload_n 1, 1) := by decide +kernel
theorem dd_Mo_end_2 : decode cc_Mo_end 2 = .ok (.iload_n 2, 1) := by decide +kernel
theorem dd_Mo_end_3 : decode cc_Mo_end 3 = .ok (.invokevirtual 87, 3) := by decide +kernel
theorem dd_Mo_end_6 : decode cc_Mo_end 6 = .ok (.ifCond .eq 16, 3) := by decide +kernel
theorem dd_Mo_end_9 : decode cc_Mo_end 9 = .ok (.iload_n 3, 1) := by decide +kernel
theorem dd_Mo_end_10 : decode cc_Mo_end 10 = .ok (.iconst (-1), 1) := by decide +kernel
theorem dd_Mo_end_11 : decode cc_Mo_end 11 = .ok (.if_icmp .eq 13, 3) := by decide +kernel
theorem dd_Mo_end_14 : decode cc_Mo_end 14 = .ok (.iload_n 3, 1) := by decide +kernel
theorem dd_Mo_end_15 : decode cc_Mo_end 15 = .ok (.i2l, 1) := by decide +kernel
theorem dd_Mo_end_16 : decode cc_Mo_end 16 = .ok (.invokestatic 91, 3) := by decide +kernel
theorem dd_Mo_end_19 : decode cc_Mo_end 19 = .ok (.ifCond .ne 5, 3) := by decide +kernel
theorem dd_Mo_end_22 : decode cc_Mo_end 22 = .ok (.iconst 0, 1) := by decide +kernel
theorem dd_Mo_end_23 : decode cc_Mo_end 23 = .ok (.ireturn, 1) := by decide +kernel
theorem dd_Mo_end_24 : decode cc_Mo_end 24 = .ok (.aload_n 0, 1) := by decide +kernel
theorem dd_Mo_end_25 : decode cc_Mo_end 25 = .ok (.getfield 20, 3) := by decide +kernel
theorem dd_Mo_end_28 : decode cc_Mo_end 28 = .ok (.bipush 16, 2) := by decide +kernel
theorem dd_Mo_end_30 : decode cc_Mo_end 30 = .ok (.iload_n 1, 1) := by decide +kernel
theorem dd_Mo_end_31 : decode cc_Mo_end 31 = .ok (.imul, 1) := by decide +kernel
theorem dd_Mo_end_32 : decode cc_Mo_end 32 = .ok (.iload_n 2, 1) := by decide +kernel
theorem dd_Mo_end_33 : decode cc_Mo_end 33 = .ok (.iadd, 1) := by decide +kernel
theorem dd_Mo_end_34 : decode cc_Mo_end 34 = .ok (.iload_n 3, 1) := by decide +kernel
theorem dd_Mo_end_35 : decode cc_Mo_end 35 = .ok (.i2l, 1) := by decide +kernel
theorem dd_Mo_end_36 : decode cc_Mo_end 36 = .ok (.lastore, 1) := by decide +kernel
theorem dd_Mo_end_37 : decode cc_Mo_end 37 = .ok (.iconst 1, 1) := by decide +kernel
theorem dd_Mo_end_38 : decode cc_Mo_end 38 = .ok (.ireturn, 1) := by decide +kernel
theorem dd_Mo_arc_0 : decode cc_Mo_arc 0 = .ok (.aload_n 0, 1) := by decide +kernel
theorem dd_Mo_arc_1 : decode cc_Mo_arc 1 = .ok (.iload_n 1, 1) := by decide +kernel
theorem dd_Mo_arc_2 : decode cc_Mo_arc 2 = .ok (.iload_n 2, 1) := by decide +kernel
theorem dd_Mo_arc_3 : decode cc_Mo_arc 3 = .ok (.invokevirtual 87, 3) := by decide +kernel
theorem dd_Mo_arc_6 : decode cc_Mo_arc 6 = .ok (.ifCond .eq 33, 3) := by decide +kernel
theorem dd_Mo_arc_9 : decode cc_Mo_arc 9 = .ok (.aload_n 0, 1) := by decide +kernel
theorem dd_Mo_arc_10 : decode cc_Mo_arc 10 = .ok (.iload_n 1, 1) := by decide +kernel
theorem dd_Mo_arc_11 : decode cc_Mo_arc 11 = .ok (.iload_n 3, 1) := by decide +kernel
theorem dd_Mo_arc_12 : decode cc_Mo_arc 12 = .ok (.invokevirtual 87, 3) := by decide +kernel
theorem dd_Mo_arc_15 : decode cc_Mo_arc 15 = .ok (.ifCond .eq 24, 3) := by decide +kernel
theorem dd_Mo_arc_18 : decode cc_Mo_arc 18 = .ok (.iload 4, 2) := by decide +kernel
theorem dd_Mo_arc_20 : decode cc_Mo_arc 20 = .ok (.ifCond .lt 19, 3) := by decide +kernel
theorem dd_Mo_arc_23 : decode cc_Mo_arc 23 = .ok (.iload 4, 2) := by decide +kernel
theorem dd_Mo_arc_25 : decode cc_Mo_arc 25 = .ok (.bipush 63, 2) := by decide +kernel
theorem dd_Mo_arc_27 : decode cc_Mo_arc 27 = .ok (.if_icmp .gt 12, 3) := by decide +kernel
theorem dd_Mo_arc_30 : decode cc_Mo_arc 30 = .ok (.iload 5, 2) := by decide +kernel
theorem dd_Mo_arc_32 : decode cc_Mo_arc 32 = .ok (.i2l, 1) := by decide +kernel
theorem dd_Mo_arc_33 : decode cc_Mo_arc 33 = .ok (.invokestatic 91, 3) := by decide +kernel
theorem dd_Mo_arc_36 : decode cc_Mo_arc 36 = .ok (.ifCond .ne 5, 3) := by decide +kernel
theorem dd_Mo_arc_39 : decode cc_Mo_arc 39 = .ok (.iconst (-1), 1) := by decide +kernel
theorem dd_Mo_arc_40 : decode cc_Mo_arc 40 = .ok (.ireturn, 1) := by decide +kernel
theorem dd_Mo_arc_41 : decode cc_Mo_arc 41 = .ok (.aload_n 0, 1) := by decide +kernel
theorem dd_Mo_arc_42 : decode cc_Mo_arc 42 = .ok (.iload_n 1, 1) := by decide +kernel
theorem dd_Mo_arc_43 : decode cc_Mo_arc 43 = .ok (.iload_n 2, 1) := by decide +kernel
theorem dd_Mo_arc_44 : decode cc_Mo_arc 44 = .ok (.iload_n 3, 1) := by decide +kernel
theorem dd_Mo_arc_45 : decode cc_Mo_arc 45 = .ok (.iload 4, 2) := by decide +kernel
theorem dd_Mo_arc_47 : decode cc_Mo_arc 47 = .ok (.bipush 8, 2) := by decide +kernel
theorem dd_Mo_arc_49 : decode cc_Mo_arc 49 = .ok (.idiv, 1) := by decide +kernel
theorem dd_Mo_arc_50 : decode cc_Mo_arc 50 = .ok (.iload 4, 2) := by decide +kernel
theorem dd_Mo_arc_52 : decode cc_Mo_arc 52 = .ok (.bipush 8, 2) := by decide +kernel
theorem dd_Mo_arc_54 : decode cc_Mo_arc 54 = .ok (.irem, 1) := by decide +kernel
theorem dd_Mo_arc_55 : decode cc_Mo_arc 55 = .ok (.iload 5, 2) := by decide +kernel
theorem dd_Mo_arc_57 : decode cc_Mo_arc 57 = .ok (.i2l, 1) := by decide +kernel
theorem dd_Mo_arc_58 : decode cc_Mo_arc 58 = .ok (.invokevirtual 99, 3) := by decide +kernel
theorem dd_Mo_arc_61 : decode cc_Mo_arc 61 = .ok (.ifCond .eq 12, 3) := by decide +kernel
theorem dd_Mo_arc_64 : decode cc_Mo_arc 64 = .ok (.aload_n 0, 1) := by decide +kernel
theorem dd_Mo_arc_65 : decode cc_Mo_arc 65 = .ok (.getfield 23, 3) := by decide +kernel
theorem dd_Mo_arc_68 : decode cc_Mo_arc 68 = .ok (.iload_n 1, 1) := by decide +kernel
theorem dd_Mo_arc_69 : decode cc_Mo_arc 69 = .ok (.iaload, 1) := by decide +kernel
theorem dd_Mo_arc_70 : decode cc_Mo_arc 70 = .ok (.goto 5, 3) := by decide +kernel
theorem dd_Mo_arc_73 : decode cc_Mo_arc 73 = .ok (.bipush (-2), 2) := by decide +kernel
theorem dd_Mo_arc_75 : decode cc_Mo_arc 75 = .ok (.ireturn, 1) := by decide +kernel
theorem dd_Mo_step_0 : decode cc_Mo_step 0 = .ok (.iload_n 1, 1) := by decide +kernel
theorem dd_Mo_step_1 : decode cc_Mo_step 1 = .ok (.ifCond .lt 20, 3) := by decide +kernel
theorem dd_Mo_step_4 : decode cc_Mo_step 4 = .ok (.iload_n 1, 1) := by decide +kernel
theorem dd_Mo_step_5 : decode cc_Mo_step 5 = .ok (.aload_n 0, 1) := by decide +kernel
theorem dd_Mo_step_6 : decode cc_Mo_step 6 = .ok (.getfield 177, 3) := by decide +kernel
theorem dd_Mo_step_9 : decode cc_Mo_step 9 = .ok (.if_icmp .ge 12, 3) := by decide +kernel
theorem dd_Mo_step_12 : decode cc_Mo_step 12 = .ok (.iload_n 2, 1) := by decide +kernel
theorem dd_Mo_step_13 : decode cc_Mo_step 13 = .ok (.ifCond .lt 8, 3) := by decide +kernel
theorem dd_Mo_step_16 : decode cc_Mo_step 16 = .ok (.iload_n 2, 1) := by decide +kernel
theorem dd_Mo_step_17 : decode cc_Mo_step 17 = .ok (.iconst 4, 1) := by decide +kernel
theorem dd_Mo_step_18 : decode cc_Mo_step 18 = .ok (.if_icmp .le 5, 3) := by decide +kernel
theorem dd_Mo_step_21 : decode cc_Mo_step 21 = .ok (.iconst (-1), 1) := by decide +kernel
theorem dd_Mo_step_22 : decode cc_Mo_step 22 = .ok (.ireturn, 1) := by decide +kernel
theorem dd_Mo_step_23 : decode cc_Mo_step 23 = .ok (.iload_n 2, 1) := by decide +kernel
theorem dd_Mo_step_24 : decode cc_Mo_step 24 = .ok (.iconst 4, 1) := by decide +kernel
theorem dd_Mo_step_25 : decode cc_Mo_step 25 = .ok (.if_icmp .ne 13, 3) := by decide +kernel
theorem dd_Mo_step_28 : decode cc_Mo_step 28 = .ok (.aload_n 0, 1) := by decide +kernel
theorem dd_Mo_step_29 : decode cc_Mo_step 29 = .ok (.getfield 44, 3) := by decide +kernel
theorem dd_Mo_step_32 : decode cc_Mo_step 32 = .ok (.iload_n 1, 1) := by decide +kernel
theorem dd_Mo_step_33 : decode cc_Mo_step 33 = .ok (.laload, 1) := by decide +kernel
theorem dd_Mo_step_34 : decode cc_Mo_step 34 = .ok (.l2i, 1) := by decide +kernel
theorem dd_Mo_step_35 : decode cc_Mo_step 35 = .ok (.goto 13, 3) := by decide +kernel
theorem dd_Mo_step_38 : decode cc_Mo_step 38 = .ok (.aload_n 0, 1) := by decide +kernel
theorem dd_Mo_step_39 : decode cc_Mo_step 39 = .ok (.getfield 41, 3) := by decide +kernel
theorem dd_Mo_step_42 : decode cc_Mo_step 42 = .ok (.iconst 5, 1) := by decide +kernel
theorem dd_Mo_step_43 : decode cc_Mo_step 43 = .ok (.iload_n 1, 1) := by decide +kernel
theorem dd_Mo_step_44 : decode cc_Mo_step 44 = .ok (.imul, 1) := by decide +kernel
theorem dd_Mo_step_45 : decode cc_Mo_step 45 = .ok (.iload_n 2, 1) := by decide +kernel
theorem dd_Mo_step_46 : decode cc_Mo_step 46 = .ok (.iadd, 1) := by decide +kernel
theorem dd_Mo_step_47 : decode cc_Mo_step 47 = .ok (.iaload, 1) := by decide +kernel
theorem dd_Mo_step_48 : decode cc_Mo_step 48 = .ok (.ireturn, 1) := by decide +kernel
theorem dd_Mo_part_0 : decode cc_Mo_part 0 = .ok (.iload_n 1, 1) := by decide +kernel
theorem dd_Mo_part_1 : decode cc_Mo_part 1 = .ok (.invokestatic 81, 3) := by decide +kernel
theorem dd_Mo_part_4 : decode cc_Mo_part 4 = .ok (.ifCond .eq 26, 3) := by decide +kernel
theorem dd_Mo_part_7 : decode cc_Mo_part 7 = .ok (.iload_n 2, 1) := by decide +kernel
theorem dd_Mo_part_8 : decode cc_Mo_part 8 = .ok (.ifCond .lt 22, 3) := by decide +kernel
theorem dd_Mo_part_11 : decode cc_Mo_part 11 = .ok (.iload_n 2, 1) := by decide +kernel
theorem dd_Mo_part_12 : decode cc_Mo_part 12 = .ok (.aload_n 0, 1) := by decide +kernel
theorem dd_Mo_part_13 : decode cc_Mo_part 13 = .ok (.getfield 23, 3) := by decide +kernel
theorem dd_Mo_part_16 : decode cc_Mo_part 16 = .ok (.iload_n 1, 1) := by decide +kernel
theorem dd_Mo_part_17 : decode cc_Mo_part 17 = .ok (.iaload, 1) := by decide +kernel
theorem dd_Mo_part_18 : decode cc_Mo_part 18 = .ok (.if_icmp .ge 12, 3) := by decide +kernel
theorem dd_Mo_part_21 : decode cc_Mo_part 21 = .ok (.iload_n 3, 1) := by decide +kernel
theorem dd_Mo_part_22 : decode cc_Mo_part 22 = .ok (.ifCond .lt 8, 3) := by decide +kernel
theorem dd_Mo_part_25 : decode cc_Mo_part 25 = .ok (.iload_n 3, 1) := by decide +kernel
theorem dd_Mo_part_26 : decode cc_Mo_part 26 = .ok (.iconst 4, 1) := by decide +kernel
theorem dd_Mo_part_27 : decode cc_Mo_part 27 = .ok (.if_icmp .le 5, 3) := by decide +kernel
theorem dd_Mo_part_30 : decode cc_Mo_part 30 = .ok (.iconst (-1), 1) := by decide +kernel
theorem dd_Mo_part_31 : decode cc_Mo_part 31 = .ok (.ireturn, 1) := by decide +kernel
theorem dd_Mo_part_32 : decode cc_Mo_part 32 = .ok (.bipush 65, 2) := by decide +kernel
theorem dd_Mo_part_34 : decode cc_Mo_part 34 = .ok (.iload_n 1, 1) := by decide +kernel
theorem dd_Mo_part_35 : decode cc_Mo_part 35 = .ok (.imul, 1) := by decide +kernel
theorem dd_Mo_part_36 : decode cc_Mo_part 36 = .ok (.iload_n 2, 1) := by decide +kernel
theorem dd_Mo_part_37 : decode cc_Mo_part 37 = .ok (.iadd, 1) := by decide +kernel
theorem dd_Mo_part_38 : decode cc_Mo_part 38 = .ok (.istore 4, 2) := by decide +kernel
theorem dd_Mo_part_40 : decode cc_Mo_part 40 = .ok (.iload_n 3, 1) := by decide +kernel
theorem dd_Mo_part_41 : decode cc_Mo_part 41 = .ok (.ifCond .ne 13, 3) := by decide +kernel
theorem dd_Mo_part_44 : decode cc_Mo_part 44 = .ok (.aload_n 0, 1) := by decide +kernel
theorem dd_Mo_part_45 : decode cc_Mo_part 45 = .ok (.getfield 26, 3) := by decide +kernel
theorem dd_Mo_part_48 : decode cc_Mo_part 48 = .ok (.iload 4, 2) := by decide +kernel
theorem dd_Mo_part_50 : decode cc_Mo_part 50 = .ok (.iaload, 1) := by decide +kernel
theorem dd_Mo_part_51 : decode cc_Mo_part 51 = .ok (.goto 56, 3) := by decide +kernel
theorem dd_Mo_part_54 : decode cc_Mo_part 54 = .ok (.iload_n 3, 1) := by decide +kernel
theorem dd_Mo_part_55 : decode cc_Mo_part 55 = .ok (.iconst 1, 1) := by decide +kernel
theorem dd_Mo_part_56 : decode cc_Mo_part 56 = .ok (.if_icmp .ne 13, 3) := by decide +kernel
theorem dd_Mo_part_59 : decode cc_Mo_part 59 = .ok (.aload_n 0, 1) := by decide +kernel
theorem dd_Mo_part_60 : decode cc_Mo_part 60 = .ok (.getfield 29, 3) := by decide +kernel
theorem dd_Mo_part_63 : decode cc_Mo_part 63 = .ok (.iload 4, 2) := by decide +kernel
theorem dd_Mo_part_65 : decode cc_Mo_part 65 = .ok (.iaload, 1) := by decide +kernel
theorem dd_Mo_part_66 : decode cc_Mo_part 66 = .ok (.goto 41, 3) := by decide +kernel
theorem dd_Mo_part_69 : decode cc_Mo_part 69 = .ok (.iload_n 3, 1) := by decide +kernel
theorem dd_Mo_part_70 : decode cc_Mo_part 70 = .ok (.iconst 2, 1) := by decide +kernel
theorem dd_Mo_part_71 : decode cc_Mo_part 71 = .ok (.if_icmp .ne 13, 3) := by decide +kernel
theorem dd_Mo_part_74 : decode cc_Mo_part 74 = .ok (.aload_n 0, 1) := by decide +kernel
theorem dd_Mo_part_75 : decode cc_Mo_part 75 = .ok (.getfield 32, 3) := by decide +kernel
theorem dd_Mo_part_78 : decode cc_Mo_part 78 = .ok (.iload 4, 2) := by decide +kernel
theorem dd_Mo_part_80 : decode cc_Mo_part 80 = .ok (.iaload, 1) := by decide +kernel
theorem dd_Mo_part_81 : decode cc_Mo_part 81 = .ok (.goto 26, 3) := by decide +kernel
theorem dd_Mo_part_84 : decode cc_Mo_part 84 = .ok (.iload_n 3, 1) := by decide +kernel
theorem dd_Mo_part_85 : decode cc_Mo_part 85 = .ok (.iconst 3, 1) := by decide +kernel
theorem dd_Mo_part_86 : decode cc_Mo_part 86 = .ok (.if_icmp .ne 13, 3) := by decide +kernel
theorem dd_Mo_part_89 : decode cc_Mo_part 89 = .ok (.aload_n 0, 1) := by decide +kernel
theorem dd_Mo_part_90 : decode cc_Mo_part 90 = .ok (.getfield 35, 3) := by decide +kernel
theorem dd_Mo_part_93 : decode cc_Mo_part 93 = .ok (.iload 4, 2) := by decide +kernel
theorem dd_Mo_part_95 : decode cc_Mo_part 95 = .ok (.iaload, 1) := by decide +kernel
theorem dd_Mo_part_96 : decode cc_Mo_part 96 = .ok (.goto 11, 3) := by decide +kernel
theorem dd_Mo_part_99 : decode cc_Mo_part 99 = .ok (.aload_n 0, 1) := by decide +kernel
theorem dd_Mo_part_100 : decode cc_Mo_part 100 = .ok (.getfield 38, 3) := by decide +kernel
theorem dd_Mo_part_103 : decode cc_Mo_part 103 = .ok (.iload 4, 2) := by decide +kernel
theorem dd_Mo_part_105 : decode cc_Mo_part 105 = .ok (.laload, 1) := by decide +kernel
theorem dd_Mo_part_106 : decode cc_Mo_part 106 = .ok (.l2i, 1) := by decide +kernel
theorem dd_Mo_part_107 : decode cc_Mo_part 107 = .ok (.ireturn, 1) := by decide +kernel
theorem dd_Mo_count_0 : decode cc_Mo_count 0 = .ok (.iload_n 1, 1) := by decide +kernel
theorem dd_Mo_count_1 : decode cc_Mo_count 1 = .ok (.invokestatic 81, 3) := by decide +kernel
theorem dd_Mo_count_4 : decode cc_Mo_count 4 = .ok (.ifCond .eq 12, 3) := by decide +kernel
theorem dd_Mo_count_7 : decode cc_Mo_count 7 = .ok (.iload_n 2, 1) := by decide +kernel
theorem dd_Mo_count_8 : decode cc_Mo_count 8 = .ok (.ifCond .lt 8, 3) := by decide +kernel
theorem dd_Mo_count_11 : decode cc_Mo_count 11 = .ok (.iload_n 2, 1) := by decide +kernel
theorem dd_Mo_count_12 : decode cc_Mo_count 12 = .ok (.iconst 4, 1) := by decide +kernel
theorem dd_Mo_count_13 : decode cc_Mo_count 13 = .ok (.if_icmp .le 5, 3) := by decide +kernel
theorem dd_Mo_count_16 : decode cc_Mo_count 16 = .ok (.iconst (-1), 1) := by decide +kernel
theorem dd_Mo_count_17 : decode cc_Mo_count 17 = .ok (.ireturn, 1) := by decide +kernel
theorem dd_Mo_count_18 : decode cc_Mo_count 18 = .ok (.iconst 0, 1) := by decide +kernel
theorem dd_Mo_count_19 : decode cc_Mo_count 19 = .ok (.istore_n 3, 1) := by decide +kernel
theorem dd_Mo_count_20 : decode cc_Mo_count 20 = .ok (.iconst 0, 1) := by decide +kernel
theorem dd_Mo_count_21 : decode cc_Mo_count 21 = .ok (.istore 4, 2) := by decide +kernel
theorem dd_Mo_count_23 : decode cc_Mo_count 23 = .ok (.iload 4, 2) := by decide +kernel
theorem dd_Mo_count_25 : decode cc_Mo_count 25 = .ok (.aload_n 0, 1) := by decide +kernel
theorem dd_Mo_count_26 : decode cc_Mo_count 26 = .ok (.getfield 7, 3) := by decide +kernel
theorem dd_Mo_count_29 : decode cc_Mo_count 29 = .ok (.iload_n 1, 1) := by decide +kernel
theorem dd_Mo_count_30 : decode cc_Mo_count 30 = .ok (.iaload, 1) := by decide +kernel
theorem dd_Mo_count_31 : decode cc_Mo_count 31 = .ok (.if_icmp .ge 34, 3) := by decide +kernel
theorem dd_Mo_count_34 : decode cc_Mo_count 34 = .ok (.aload_n 0, 1) := by decide +kernel
theorem dd_Mo_count_35 : decode cc_Mo_count 35 = .ok (.getfield 20, 3) := by decide +kernel
theorem dd_Mo_count_38 : decode cc_Mo_count 38 = .ok (.bipush 16, 2) := by decide +kernel
theorem dd_Mo_count_40 : decode cc_Mo_count 40 = .ok (.iload_n 1, 1) := by decide +kernel
theorem dd_Mo_count_41 : decode cc_Mo_count 41 = .ok (.imul, 1) := by decide +kernel
theorem dd_Mo_count_42 : decode cc_Mo_count 42 = .ok (.iload 4, 2) := by decide +kernel
theorem dd_Mo_count_44 : decode cc_Mo_count 44 = .ok (.iadd, 1) := by decide +kernel
theorem dd_Mo_count_45 : decode cc_Mo_count 45 = .ok (.laload, 1) := by decide +kernel
theorem dd_Mo_count_46 : decode cc_Mo_count 46 = .ok (.lconst 0, 1) := by decide +kernel
theorem dd_Mo_count_47 : decode cc_Mo_count 47 = .ok (.lcmp, 1) := by decide +kernel
theorem dd_Mo_count_48 : decode cc_Mo_count 48 = .ok (.ifCond .lt 9, 3) := by decide +kernel
theorem dd_Mo_count_51 : decode cc_Mo_count 51 = .ok (.iload_n 3, 1) := by decide +kernel
theorem dd_Mo_count_52 : decode cc_Mo_count 52 = .ok (.iconst 1, 1) := by decide +kernel
theorem dd_Mo_count_53 : decode cc_Mo_count 53 = .ok (.iadd, 1) := by decide +kernel
theorem dd_Mo_count_54 : decode cc_Mo_count 54 = .ok (.goto 4, 3) := by decide +kernel
theorem dd_Mo_count_57 : decode cc_Mo_count 57 = .ok (.iload_n 3, 1) := by decide +kernel
theorem dd_Mo_count_58 : decode cc_Mo_count 58 = .ok (.istore_n 3, 1) := by decide +kernel
theorem dd_Mo_count_59 : decode cc_Mo_count 59 = .ok (.iinc 4 1, 3) := by decide +kernel
theorem dd_Mo_count_62 : decode cc_Mo_count 62 = .ok (.goto (-39), 3) := by decide +kernel
theorem dd_Mo_count_65 : decode cc_Mo_count 65 = .ok (.iload_n 2, 1) := by decide +kernel
theorem dd_Mo_count_66 : decode cc_Mo_count 66 = .ok (.ifCond .ne 12, 3) := by decide +kernel
theorem dd_Mo_count_69 : decode cc_Mo_count 69 = .ok (.aload_n 0, 1) := by decide +kernel
theorem dd_Mo_count_70 : decode cc_Mo_count 70 = .ok (.getfield 7, 3) := by decide +kernel
theorem dd_Mo_count_73 : decode cc_Mo_count 73 = .ok (.iload_n 1, 1) := by decide +kernel
theorem dd_Mo_count_74 : decode cc_Mo_count 74 = .ok (.iaload, 1) := by decide +kernel
theorem dd_Mo_count_75 : decode cc_Mo_count 75 = .ok (.goto 60, 3) := by decide +kernel
theorem dd_Mo_count_78 : decode cc_Mo_count 78 = .ok (.iload_n 2, 1) := by decide +kernel
theorem dd_Mo_count_79 : decode cc_Mo_count 79 = .ok (.iconst 1, 1) := by decide +kernel
theorem dd_Mo_count_80 : decode cc_Mo_count 80 = .ok (.if_icmp .ne 12, 3) := by decide +kernel
theorem dd_Mo_count_83 : decode cc_Mo_count 83 = .ok (.aload_n 0, 1) := by decide +kernel
theorem dd_Mo_count_84 : decode cc_Mo_count 84 = .ok (.getfield 23, 3) := by decide +kernel
theorem dd_Mo_count_87 : decode cc_Mo_count 87 = .ok (.iload_n 1, 1) := by decide +kernel
theorem dd_Mo_count_88 : decode cc_Mo_count 88 = .ok (.iaload, 1) := by decide +kernel
theorem dd_Mo_count_89 : decode cc_Mo_count 89 = .ok (.goto 46, 3) := by decide +kernel
theorem dd_Mo_count_92 : decode cc_Mo_count 92 = .ok (.iload_n 2, 1) := by decide +kernel
theorem dd_Mo_count_93 : decode cc_Mo_count 93 = .ok (.iconst 2, 1) := by decide +kernel
theorem dd_Mo_count_94 : decode cc_Mo_count 94 = .ok (.if_icmp .ne 7, 3) := by decide +kernel
theorem dd_Mo_count_97 : decode cc_Mo_count 97 = .ok (.iload_n 3, 1) := by decide +kernel
theorem dd_Mo_count_98 : decode cc_Mo_count 98 = .ok (.goto 37, 3) := by decide +kernel
theorem dd_Mo_count_101 : decode cc_Mo_count 101 = .ok (.iload_n 2, 1) := by decide +kernel
theorem dd_Mo_count_102 : decode cc_Mo_count 102 = .ok (.iconst 3, 1) := by decide +kernel
theorem dd_Mo_count_103 : decode cc_Mo_count 103 = .ok (.if_icmp .ne 12, 3) := by decide +kernel
theorem dd_Mo_count_106 : decode cc_Mo_count 106 = .ok (.aload_n 0, 1) := by decide +kernel
theorem dd_Mo_count_107 : decode cc_Mo_count 107 = .ok (.getfield 13, 3) := by decide +kernel
theorem dd_Mo_count_110 : decode cc_Mo_count 110 = .ok (.iload_n 1, 1) := by decide +kernel
theorem dd_Mo_count_111 : decode cc_Mo_count 111 = .ok (.iaload, 1) := by decide +kernel
theorem dd_Mo_count_112 : decode cc_Mo_count 112 = .ok (.goto 23, 3) := by decide +kernel
theorem dd_Mo_count_115 : decode cc_Mo_count 115 = .ok (.aload_n 0, 1) := by decide +kernel
theorem dd_Mo_count_116 : decode cc_Mo_count 116 = .ok (.getfield 13, 3) := by decide +kernel
theorem dd_Mo_count_119 : decode cc_Mo_count 119 = .ok (.iload_n 1, 1) := by decide +kernel
theorem dd_Mo_count_120 : decode cc_Mo_count 120 = .ok (.iaload, 1) := by decide +kernel
theorem dd_Mo_count_121 : decode cc_Mo_count 121 = .ok (.ifCond .ge 7, 3) := by decide +kernel
theorem dd_Mo_count_124 : decode cc_Mo_count 124 = .ok (.iconst (-1), 1) := by decide +kernel
theorem dd_Mo_count_125 : decode cc_Mo_count 125 = .ok (.goto 10, 3) := by decide +kernel
theorem dd_Mo_count_128 : decode cc_Mo_count 128 = .ok (.aload_n 0, 1) := by decide +kernel
theorem dd_Mo_count_129 : decode cc_Mo_count 129 = .ok (.getfield 16, 3) := by decide +kernel
theorem dd_Mo_count_132 : decode cc_Mo_count 132 = .ok (.iload_n 1, 1) := by decide +kernel
theorem dd_Mo_count_133 : decode cc_Mo_count 133 = .ok (.laload, 1) := by decide +kernel
theorem dd_Mo_count_134 : decode cc_Mo_count 134 = .ok (.l2i, 1) := by decide +kernel
theorem dd_Mo_count_135 : decode cc_Mo_count 135 = .ok (.ireturn, 1) := by decide +kernel
theorem dd_Mo_endOf_0 : decode cc_Mo_endOf 0 = .ok (.aload_n 0, 1) := by decide +kernel
theorem dd_Mo_endOf_1 : decode cc_Mo_endOf 1 = .ok (.iload_n 1, 1) := by decide +kernel
theorem dd_Mo_endOf_2 : decode cc_Mo_endOf 2 = .ok (.iload_n 2, 1) := by decide +kernel
theorem dd_Mo_endOf_3 : decode cc_Mo_endOf 3 = .ok (.invokevirtual 87, 3) := by decide +kernel
theorem dd_Mo_endOf_6 : decode cc_Mo_endOf 6 = .ok (.ifCond .eq 18, 3) := by decide +kernel
theorem dd_Mo_endOf_9 : decode cc_Mo_endOf 9 = .ok (.aload_n 0, 1) := by decide +kernel
theorem dd_Mo_endOf_10 : decode cc_Mo_endOf 10 = .ok (.getfield 20, 3) := by decide +kernel
theorem dd_Mo_endOf_13 : decode cc_Mo_endOf 13 = .ok (.bipush 16, 2) := by decide +kernel
theorem dd_Mo_endOf_15 : decode cc_Mo_endOf 15 = .ok (.iload_n 1, 1) := by decide +kernel
theorem dd_Mo_endOf_16 : decode cc_Mo_endOf 16 = .ok (.imul, 1) := by decide +kernel
theorem dd_Mo_endOf_17 : decode cc_Mo_endOf 17 = .ok (.iload_n 2, 1) := by decide +kernel
theorem dd_Mo_endOf_18 : decode cc_Mo_endOf 18 = .ok (.iadd, 1) := by decide +kernel
theorem dd_Mo_endOf_19 : decode cc_Mo_endOf 19 = .ok (.laload, 1) := by decide +kernel
theorem dd_Mo_endOf_20 : decode cc_Mo_endOf 20 = .ok (.l2i, 1) := by decide +kernel
theorem dd_Mo_endOf_21 : decode cc_Mo_endOf 21 = .ok (.goto 4, 3) := by decide +kernel
theorem dd_Mo_endOf_24 : decode cc_Mo_endOf 24 = .ok (.iconst (-1), 1) := by decide +kernel
theorem dd_Mo_endOf_25 : decode cc_Mo_endOf 25 = .ok (.ireturn, 1) := by decide +kernel
theorem dd_Mo_letter_0 : decode cc_Mo_letter 0 = .ok (.iload_n 1, 1) := by decide +kernel
theorem dd_Mo_letter_1 : decode cc_Mo_letter 1 = .ok (.ifCond .lt 20, 3) := by decide +kernel
theorem dd_Mo_letter_4 : decode cc_Mo_letter 4 = .ok (.iload_n 1, 1) := by decide +kernel
theorem dd_Mo_letter_5 : decode cc_Mo_letter 5 = .ok (.aload_n 0, 1) := by decide +kernel
theorem dd_Mo_letter_6 : decode cc_Mo_letter 6 = .ok (.getfield 180, 3) := by decide +kernel
theorem dd_Mo_letter_9 : decode cc_Mo_letter 9 = .ok (.if_icmp .ge 12, 3) := by decide +kernel
theorem dd_Mo_letter_12 : decode cc_Mo_letter 12 = .ok (.aload_n 0, 1) := by decide +kernel
theorem dd_Mo_letter_13 : decode cc_Mo_letter 13 = .ok (.getfield 47, 3) := by decide +kernel
theorem dd_Mo_letter_16 : decode cc_Mo_letter 16 = .ok (.iload_n 1, 1) := by decide +kernel
theorem dd_Mo_letter_17 : decode cc_Mo_letter 17 = .ok (.iaload, 1) := by decide +kernel
theorem dd_Mo_letter_18 : decode cc_Mo_letter 18 = .ok (.goto 4, 3) := by decide +kernel
theorem dd_Mo_letter_21 : decode cc_Mo_letter 21 = .ok (.iconst (-1), 1) := by decide +kernel
theorem dd_Mo_letter_22 : decode cc_Mo_letter 22 = .ok (.ireturn, 1) := by decide +kernel
theorem dd_Mo_say_0 : decode cc_Mo_say 0 = .ok (.aload_n 0, 1) := by decide +kernel
theorem dd_Mo_say_1 : decode cc_Mo_say 1 = .ok (.getfield 47, 3) := by decide +kernel
theorem dd_Mo_say_4 : decode cc_Mo_say 4 = .ok (.aload_n 0, 1) := by decide +kernel
theorem dd_Mo_say_5 : decode cc_Mo_say 5 = .ok (.getfield 180, 3) := by decide +kernel
theorem dd_Mo_say_8 : decode cc_Mo_say 8 = .ok (.iload_n 1, 1) := by decide +kernel
theorem dd_Mo_say_9 : decode cc_Mo_say 9 = .ok (.iastore, 1) := by decide +kernel
theorem dd_Mo_say_10 : decode cc_Mo_say 10 = .ok (.aload_n 0, 1) := by decide +kernel
theorem dd_Mo_say_11 : decode cc_Mo_say 11 = .ok (.dup, 1) := by decide +kernel
theorem dd_Mo_say_12 : decode cc_Mo_say 12 = .ok (.getfield 180, 3) := by decide +kernel
theorem dd_Mo_say_15 : decode cc_Mo_say 15 = .ok (.iconst 1, 1) := by decide +kernel
theorem dd_Mo_say_16 : decode cc_Mo_say 16 = .ok (.iadd, 1) := by decide +kernel
theorem dd_Mo_say_17 : decode cc_Mo_say 17 = .ok (.putfield 180, 3) := by decide +kernel
theorem dd_Mo_say_20 : decode cc_Mo_say 20 = .ok (.return_, 1) := by decide +kernel
theorem dd_Mo_feed_0 : decode cc_Mo_feed 0 = .ok (.iload_n 3, 1) := by decide +kernel
theorem dd_Mo_feed_1 : decode cc_Mo_feed 1 = .ok (.ifCond .ne 10, 3) := by decide +kernel
theorem dd_Mo_feed_4 : decode cc_Mo_feed 4 = .ok (.aload_n 0, 1) := by decide +kernel
theorem dd_Mo_feed_5 : decode cc_Mo_feed 5 = .ok (.iconst 0, 1) := by decide +kernel
theorem dd_Mo_feed_6 : decode cc_Mo_feed 6 = .ok (.putfield 180, 3) := by decide +kernel
theorem dd_Mo_feed_9 : decode cc_Mo_feed 9 = .ok (.iconst 0, 1) := by decide +kernel
theorem dd_Mo_feed_10 : decode cc_Mo_feed 10 = .ok (.ireturn, 1) := by decide +kernel
theorem dd_Mo_feed_11 : decode cc_Mo_feed 11 = .ok (.iload_n 3, 1) := by decide +kernel
theorem dd_Mo_feed_12 : decode cc_Mo_feed 12 = .ok (.iconst 1, 1) := by decide +kernel
theorem dd_Mo_feed_13 : decode cc_Mo_feed 13 = .ok (.if_icmp .lt 21, 3) := by decide +kernel
theorem dd_Mo_feed_16 : decode cc_Mo_feed 16 = .ok (.iload_n 3, 1) := by decide +kernel
theorem dd_Mo_feed_17 : decode cc_Mo_feed 17 = .ok (.bipush 8, 2) := by decide +kernel
theorem dd_Mo_feed_19 : decode cc_Mo_feed 19 = .ok (.if_icmp .gt 15, 3) := by decide +kernel
theorem dd_Mo_feed_22 : decode cc_Mo_feed 22 = .ok (.aload_n 0, 1) := by decide +kernel
theorem dd_Mo_feed_23 : decode cc_Mo_feed 23 = .ok (.getfield 180, 3) := by decide +kernel
theorem dd_Mo_feed_26 : decode cc_Mo_feed 26 = .ok (.iload_n 3, 1) := by decide +kernel
theorem dd_Mo_feed_27 : decode cc_Mo_feed 27 = .ok (.iadd, 1) := by decide +kernel
theorem dd_Mo_feed_28 : decode cc_Mo_feed 28 = .ok (.sipush 1600, 3) := by decide +kernel
theorem dd_Mo_feed_31 : decode cc_Mo_feed 31 = .ok (.if_icmp .le 5, 3) := by decide +kernel
theorem dd_Mo_feed_34 : decode cc_Mo_feed 34 = .ok (.iconst (-1), 1) := by decide +kernel
theorem dd_Mo_feed_35 : decode cc_Mo_feed 35 = .ok (.ireturn, 1) := by decide +kernel
theorem dd_Mo_feed_36 : decode cc_Mo_feed 36 = .ok (.iconst 0, 1) := by decide +kernel
theorem dd_Mo_feed_37 : decode cc_Mo_feed 37 = .ok (.istore 4, 2) := by decide +kernel
theorem dd_Mo_feed_39 : decode cc_Mo_feed 39 = .ok (.iload 4, 2) := by decide +kernel
theorem dd_Mo_feed_41 : decode cc_Mo_feed 41 = .ok (.iload_n 3, 1) := by decide +kernel
theorem dd_Mo_feed_42 : decode cc_Mo_feed 42 = .ok (.if_icmp .ge 39, 3) := by decide +kernel
theorem dd_Mo_feed_45 : decode cc_Mo_feed 45 = .ok (.lload_n 1, 1) := by decide +kernel
theorem dd_Mo_feed_46 : decode cc_Mo_feed 46 = .ok (.bipush 8, 2) := by decide +kernel
theorem dd_Mo_feed_48 : decode cc_Mo_feed 48 = .ok (.iload 4, 2) := by decide +kernel
theorem dd_Mo_feed_50 : decode cc_Mo_feed 50 = .ok (.imul, 1) := by decide +kernel
theorem dd_Mo_feed_51 : decode cc_Mo_feed 51 = .ok (.lshr, 1) := by decide +kernel
theorem dd_Mo_feed_52 : decode cc_Mo_feed 52 = .ok (.ldc2_w 195, 3) := by decide +kernel
theorem dd_Mo_feed_55 : decode cc_Mo_feed 55 = .ok (.land, 1) := by decide +kernel
theorem dd_Mo_feed_56 : decode cc_Mo_feed 56 = .ok (.l2i, 1) := by decide +kernel
theorem dd_Mo_feed_57 : decode cc_Mo_feed 57 = .ok (.istore 5, 2) := by decide +kernel
theorem dd_Mo_feed_59 : decode cc_Mo_feed 59 = .ok (.iload 5, 2) := by decide +kernel
theorem dd_Mo_feed_61 : decode cc_Mo_feed 61 = .ok (.bipush 32, 2) := by decide +kernel
theorem dd_Mo_feed_63 : decode cc_Mo_feed 63 = .ok (.if_icmp .lt 10, 3) := by decide +kernel
theorem dd_Mo_feed_66 : decode cc_Mo_feed 66 = .ok (.iload 5, 2) := by decide +kernel
theorem dd_Mo_feed_68 : decode cc_Mo_feed 68 = .ok (.bipush 126, 2) := by decide +kernel
theorem dd_Mo_feed_70 : decode cc_Mo_feed 70 = .ok (.if_icmp .le 5, 3) := by decide +kernel
theorem dd_Mo_feed_73 : decode cc_Mo_feed 73 = .ok (.iconst (-1), 1) := by decide +kernel
theorem dd_Mo_feed_74 : decode cc_Mo_feed 74 = .ok (.ireturn, 1) := by decide +kernel
theorem dd_Mo_feed_75 : decode cc_Mo_feed 75 = .ok (.iinc 4 1, 3) := by decide +kernel
theorem dd_Mo_feed_78 : decode cc_Mo_feed 78 = .ok (.goto (-39), 3) := by decide +kernel
theorem dd_Mo_feed_81 : decode cc_Mo_feed 81 = .ok (.iload_n 3, 1) := by decide +kernel
theorem dd_Mo_feed_82 : decode cc_Mo_feed 82 = .ok (.iconst 1, 1) := by decide +kernel
theorem dd_Mo_feed_83 : decode cc_Mo_feed 83 = .ok (.isub, 1) := by decide +kernel
theorem dd_Mo_feed_84 : decode cc_Mo_feed 84 = .ok (.istore 4, 2) := by decide +kernel
theorem dd_Mo_feed_86 : decode cc_Mo_feed 86 = .ok (.iload 4, 2) := by decide +kernel
theorem dd_Mo_feed_88 : decode cc_Mo_feed 88 = .ok (.ifCond .lt 25, 3) := by decide +kernel
theorem dd_Mo_feed_91 : decode cc_Mo_feed 91 = .ok (.aload_n 0, 1) := by decide +kernel
theorem dd_Mo_feed_92 : decode cc_Mo_feed 92 = .ok (.lload_n 1, 1) := by decide +kernel
theorem dd_Mo_feed_93 : decode cc_Mo_feed 93 = .ok (.bipush 8, 2) := by decide +kernel
theorem dd_Mo_feed_95 : decode cc_Mo_feed 95 = .ok (.iload 4, 2) := by decide +kernel
theorem dd_Mo_feed_97 : decode cc_Mo_feed 97 = .ok (.imul, 1) := by decide +kernel
theorem dd_Mo_feed_98 : decode cc_Mo_feed 98 = .ok (.lshr, 1) := by decide +kernel
theorem dd_Mo_feed_99 : decode cc_Mo_feed 99 = .ok (.ldc2_w 195, 3) := by decide +kernel
theorem dd_Mo_feed_102 : decode cc_Mo_feed 102 = .ok (.land, 1) := by decide +kernel
theorem dd_Mo_feed_103 : decode cc_Mo_feed 103 = .ok (.l2i, 1) := by decide +kernel
theorem dd_Mo_feed_104 : decode cc_Mo_feed 104 = .ok (.invokevirtual 188, 3) := by decide +kernel
theorem dd_Mo_feed_107 : decode cc_Mo_feed 107 = .ok (.iinc 4 (-1), 3) := by decide +kernel
theorem dd_Mo_feed_110 : decode cc_Mo_feed 110 = .ok (.goto (-24), 3) := by decide +kernel
theorem dd_Mo_feed_113 : decode cc_Mo_feed 113 = .ok (.aload_n 0, 1) := by decide +kernel
theorem dd_Mo_feed_114 : decode cc_Mo_feed 114 = .ok (.getfield 180, 3) := by decide +kernel
theorem dd_Mo_feed_117 : decode cc_Mo_feed 117 = .ok (.ireturn, 1) := by decide +kernel
/-! WHAT THE REFERENCE HOLDS -/
def rs_P (F : mo_F) (L : mo_L) (S : Nat → Int32) (P : List (Nat × Nat)) : Prop := S 10 = nI P.length ∧ ∀ j x, P[j]? = some x → F 54 (5 * j) = nI (x.1 / 1024) ∧ F 54 (5 * j + 1) = nI (x.1 % 16) ∧ F 54 (5 * j + 2) = nI (x.1 / 128 % 8) ∧ F 54 (5 * j + 3) = nI (x.1 / 16 % 8) ∧ L 55 j = lN x.2
def rs_X (F : mo_F) (S : Nat → Int32) (X : List Nat) : Prop := S 14 = nI X.length ∧ (∀ j c, X[j]? = some c → F 56 j = nI c) ∧ X.length ≤ 1600 ∧ ∀ c ∈ X, c < 65536
def rs (F : mo_F) (L : mo_L) (S : Nat → Int32) (σ : sg) : Prop := (∀ i, i < 4 → mo_is F L i (σ.1 i)) ∧ rs_P F L S σ.2.1 ∧ rs_X F S σ.2.2
theorem rs_P_t {F F2 : mo_F} {L L2 : mo_L} {S S2 : Nat → Int32} {P : List (Nat × Nat)} (h1 : F2 54 = F 54) (h2 : L2 55 = L 55) (h3 : S2 10 = S 10) (h : rs_P F L S P) : rs_P F2 L2 S2 P := by
  unfold rs_P at h ⊢
  rw [h1, h2, h3]
  exact h
theorem rs_X_t {F F2 : mo_F} {S S2 : Nat → Int32} {X : List Nat} (h1 : F2 56 = F 56) (h3 : S2 14 = S 14) (h : rs_X F S X) : rs_X F2 S2 X := by
  unfold rs_X at h ⊢
  rw [h1, h3]
  exact h
theorem rs_set {F F2 : mo_F} {L L2 : mo_L} {S : Nat → Int32} {σ : sg} {i : Nat} {a : am_T} (hf : mo_fr i F L F2 L2) (ha : mo_is F2 L2 i a) (h : rs F L S σ) : rs F2 L2 S (o_set σ i a) := by
  refine ⟨fun j hj => ?_, rs_P_t (hf.2.2.2 54 (by decide)).1 (hf.2.2.2 55 (by decide)).2 rfl h.2.1, rs_X_t (hf.2.2.2 56 (by decide)).1 rfl h.2.2⟩
  show mo_is F2 L2 j (va_up σ.1 i a j)
  by_cases hji : j = i
  · subst hji
    rw [gm_us]
    exact ha
  · rw [gm_un hji]
    exact mo_fr_is hf hji (h.1 j hj)
/-- the four slots, the path and the text stay -/
def mo_w (F : mo_F) (L : mo_L) (F2 : mo_F) (L2 : mo_L) : Prop := (∀ t, t < 4 → F2 44 t = F 44 t ∧ F2 45 t = F 45 t ∧ L2 46 t = L 46 t ∧ F2 48 t = F 48 t) ∧ (∀ i, i < 64 → L2 47 i = L 47 i) ∧ (∀ i, i < 260 → F2 49 i = F 49 i ∧ F2 50 i = F 50 i ∧ F2 51 i = F 51 i ∧ F2 52 i = F 52 i ∧ L2 53 i = L 53 i) ∧ F2 54 = F 54 ∧ L2 55 = L 55 ∧ F2 56 = F 56
theorem mo_w_rf {F : mo_F} {L : mo_L} : mo_w F L F L := ⟨fun _ _ => ⟨rfl, rfl, rfl, rfl⟩, fun _ _ => rfl, fun _ _ => ⟨rfl, rfl, rfl, rfl, rfl⟩, rfl, rfl, rfl⟩
theorem mo_w_tr {F F1 F2 : mo_F} {L L1 L2 : mo_L} (a : mo_w F L F1 L1) (b : mo_w F1 L1 F2 L2) : mo_w F L F2 L2 := by
  refine ⟨fun t ht => ?_, fun i hi => (b.2.1 i hi).trans (a.2.1 i hi), fun i hi => ?_, b.2.2.2.1.trans a.2.2.2.1, b.2.2.2.2.1.trans a.2.2.2.2.1, b.2.2.2.2.2.trans a.2.2.2.2.2⟩
  · have h1 := a.1 t ht
    have h2 := b.1 t ht
    exact ⟨h2.1.trans h1.1, h2.2.1.trans h1.2.1, h2.2.2.1.trans h1.2.2.1, h2.2.2.2.trans h1.2.2.2⟩
  · have h1 := a.2.2.1 i hi
    have h2 := b.2.2.1 i hi
    exact ⟨h2.1.trans h1.1, h2.2.1.trans h1.2.1, h2.2.2.1.trans h1.2.2.1, h2.2.2.2.1.trans h1.2.2.2.1, h2.2.2.2.2.trans h1.2.2.2.2⟩
theorem mo_w_fr {F F2 : mo_F} {L L2 : mo_L} (h : mo_fr 4 F L F2 L2) : mo_w F L F2 L2 := ⟨fun t ht => h.1 t (by omega), fun i hi => h.2.1 i (by omega), fun i hi => h.2.2.1 i (by omega), (h.2.2.2 54 (by decide)).1, (h.2.2.2 55 (by decide)).2, (h.2.2.2 56 (by decide)).1⟩
theorem mo_w_F {F F2 : mo_F} {L : mo_L} {c : Nat} {x : Nat → Int32} (hc : 57 ≤ c) (h : F2 = va_up F c x) : mo_w F L F2 L := by
  have e : ∀ k, k < 57 → F2 k = F k := fun k hk => by rw [h, gm_un (by omega)]
  refine ⟨fun t _ => ?_, fun _ _ => rfl, fun i _ => ?_, e 54 (by decide), rfl, e 56 (by decide)⟩
  · rw [e 44 (by decide), e 45 (by decide), e 48 (by decide)]
    exact ⟨rfl, rfl, rfl, rfl⟩
  · rw [e 49 (by decide), e 50 (by decide), e 51 (by decide), e 52 (by decide)]
    exact ⟨rfl, rfl, rfl, rfl, rfl⟩
theorem mo_w_L {F : mo_F} {L L2 : mo_L} {c : Nat} {x : Nat → Int64} (hc : 57 ≤ c) (h : L2 = va_up L c x) : mo_w F L F L2 := by
  have e : ∀ k, k < 57 → L2 k = L k := fun k hk => by rw [h, gm_un (by omega)]
  refine ⟨fun t _ => ?_, fun _ _ => by rw [e 47 (by decide)], fun i _ => ?_, rfl, e 55 (by decide), rfl⟩
  · rw [e 46 (by decide)]
    exact ⟨rfl, rfl, rfl, rfl⟩
  · rw [e 53 (by decide)]
    exact ⟨rfl, rfl, rfl, rfl, rfl⟩
theorem mo_w_is {F F2 : mo_F} {L L2 : mo_L} {t : Nat} {a : am_T} (h : mo_w F L F2 L2) (ht : t < 4) (ha : mo_is F L t a) : mo_is F2 L2 t a := by
  obtain ⟨h1, h2, h3, h4, h5, h6⟩ := ha
  have e := h.1 t ht
  refine ⟨e.1.trans h1, ?_, fun q hq => (h.2.1 _ (by omega)).trans (h3 q hq), e.2.2.2.trans h4, fun j x hx => ?_, h6⟩
  · rw [e.2.1, e.2.2.1]; exact h2
  · have hj := (List.getElem?_eq_some_iff.mp hx).1
    have g := h.2.2.1 (65 * t + j) (by omega)
    have hx := h5 j x hx
    exact ⟨g.1.trans hx.1, g.2.1.trans hx.2.1, g.2.2.1.trans hx.2.2.1, g.2.2.2.1.trans hx.2.2.2.1, g.2.2.2.2.trans hx.2.2.2.2⟩
theorem mo_w_rs {F F2 : mo_F} {L L2 : mo_L} {S S2 : Nat → Int32} {σ : sg} (h : mo_w F L F2 L2) (h1 : S2 10 = S 10) (h2 : S2 14 = S 14) (hr : rs F L S σ) : rs F2 L2 S2 σ := ⟨fun i hi => mo_w_is h hi (hr.1 i hi), rs_P_t h.2.2.2.1 h.2.2.2.2.1 h1 hr.2.1, rs_X_t h.2.2.2.2.2 h2 hr.2.2⟩
theorem mo_is_st {F F2 : mo_F} {L L2 : mo_L} {s q w : Nat} {a : am_T} {z : Int64} (hF : F2 = va_up F 45 (upd (F 45) s (nI q))) (hL : L2 = va_up L 46 (vp_updL (L 46) s z)) (hz : z = lN w) (h : mo_is F L s a) : mo_is F2 L2 s (am_n a, some (q, w), am_en a, am_ar a) := by
  have e : ∀ k, k ≠ 45 → F2 k = F k := fun k hk => by rw [hF, gm_un hk]
  have e2 : ∀ k, k ≠ 46 → L2 k = L k := fun k hk => by rw [hL, gm_un hk]
  obtain ⟨h1, h2, h3, h4, h5, h6⟩ := h
  refine ⟨by rw [e 44 (by decide)]; exact h1, ⟨by rw [hF, gm_us, pk_us], by rw [hL, gm_us, pk_uLs, hz]⟩, by rw [e2 47 (by decide)]; exact h3, by rw [e 48 (by decide)]; exact h4, ?_, h6⟩
  unfold mo_a
  rw [e 49 (by decide), e 50 (by decide), e 51 (by decide), e 52 (by decide), e2 53 (by decide)]
  exact h5
theorem mo_is_en {F : mo_F} {L L2 : mo_L} {s q : Nat} {a : am_T} {z : Int64} {o : Option Nat} (hL : L2 = va_up L 47 (vp_updL (L 47) (16 * s + q) z)) (hz : z = am_e o) (h : mo_is F L s a) : mo_is F L2 s (am_n a, am_st a, va_up (am_en a) q o, am_ar a) := by
  have e2 : ∀ k, k ≠ 47 → L2 k = L k := fun k hk => by rw [hL, gm_un hk]
  obtain ⟨h1, h2, h3, h4, h5, h6⟩ := h
  refine ⟨h1, by rw [e2 46 (by decide)]; exact h2, fun j hj => ?_, h4, ?_, h6⟩
  · show L2 47 (16 * s + j) = am_e (va_up (am_en a) q o j)
    rw [hL, gm_us]
    by_cases hjq : j = q
    · subst hjq
      rw [pk_uLs, gm_us, hz]
    · rw [pk_uLn (by omega), gm_un hjq]
      exact h3 j hj
  · unfold mo_a
    rw [e2 53 (by decide)]
    exact h5
theorem ix_5 (x : Int32) : ix 5 x = none ∨ x = nI 0 ∨ x = nI 1 ∨ x = nI 2 ∨ x = nI 3 ∨ x = nI 4 := by
  rcases hx : ix 5 x with _ | j
  · exact Or.inl rfl
  · obtain ⟨hj, rfl⟩ := ix_of (by decide) hx
    rcases (show j = 0 ∨ j = 1 ∨ j = 2 ∨ j = 3 ∨ j = 4 by omega) with rfl | rfl | rfl | rfl | rfl
    · exact Or.inr (Or.inl rfl)
    · exact Or.inr (Or.inr (Or.inl rfl))
    · exact Or.inr (Or.inr (Or.inr (Or.inl rfl)))
    · exact Or.inr (Or.inr (Or.inr (Or.inr (Or.inl rfl))))
    · exact Or.inr (Or.inr (Or.inr (Or.inr (Or.inr rfl))))
theorem ap_N {x : Nat × Nat} {w : Int32} (h : ix 5 w = none) : ap_v x w = -1 := by
  unfold ap_v
  rw [h]
theorem ap_0 {x : Nat × Nat} : ap_v x (nI 0) = nI (x.1 / 1024) := by
  unfold ap_v
  rw [ix_some (by decide) (by decide)]
  rfl
theorem ap_1 {x : Nat × Nat} : ap_v x (nI 1) = nI (x.1 % 16) := by
  unfold ap_v
  rw [ix_some (by decide) (by decide)]
  rfl
theorem ap_2 {x : Nat × Nat} : ap_v x (nI 2) = nI (x.1 / 128 % 8) := by
  unfold ap_v
  rw [ix_some (by decide) (by decide)]
  rfl
theorem ap_3 {x : Nat × Nat} : ap_v x (nI 3) = nI (x.1 / 16 % 8) := by
  unfold ap_v
  rw [ix_some (by decide) (by decide)]
  rfl
theorem ap_4 {x : Nat × Nat} : ap_v x (nI 4) = nI (x.2) := by
  unfold ap_v
  rw [ix_some (by decide) (by decide)]
  rfl
set_option maxRecDepth 100000 in
set_option maxHeartbeats 4000000 in
theorem ct_Mo_fresh (l : Launch) (D : va_G) (dA : Nat → ClassId) (ad : Nat → Nat) (h : Nat → va_E) (F : mo_F) (L : mo_L) (S : Nat → Int32) {σ : sg} (hr : rs F L S σ) (hσ : sg_ok σ) (s n : Int32) : gx_Ct l D dA yy_Mo_fresh cc_Mo_fresh 3 (some .boolean) 1 0 0 [.ref (ad 43), .int s, .int n] (gx_w ad (mo_h dA ad h F L S)) (fun v w => ∃ F2 L2 S2, w = (gx_w ad (mo_h dA ad h F2 L2 S2)) ∧ rs F2 L2 S2 (o_fresh σ s n).2 ∧ v = some (.int (o_fresh σ s n).1)) := by
  refine gx_of (by decide) (Nat.le_of_ble_eq_true rfl) (fun K C _ _ => ?_)
  have hM := hr.1
  have hP := hr.2.1
  have hX := hr.2.2
  refine gx_iload_n C 1 dd_Mo_fresh_0 (kk := ?_)
  refine gx_callS C (ct_Mo_isSlot (gx_l K) D dA _ s) me_Mo_isSlot ml_Mo_81 ms_Mo_isSlot dd_Mo_fresh_1 (kk := fun v w hq => ?_)
  obtain ⟨rfl, rfl⟩ := hq
  rcases hi : ix 4 s with _ | i
  · refine gx_if_eq C 17 dd_Mo_fresh_4 (fun h4 => ?_) (fun h4 => absurd rfl h4)
    refine gx_iconst (v := nI 0) C dd_Mo_fresh_17 (kk := ?_)
    refine gx_zret C dd_Mo_fresh_18 (by first | rfl | exact fb_nar) ?_
    have hsp : o_fresh σ s n = (nI 0, σ) := by
      unfold o_fresh
      simp only [hi]
    rw [hsp]
    exact ⟨F, L, S, rfl, hr, rfl⟩
  · obtain ⟨hi4, rfl⟩ := ix_of (by decide) hi
    refine gx_if_eq C 17 dd_Mo_fresh_4 (fun h4 => absurd (show true = false from fb_0.mp h4) (by decide)) (fun h4 => ?_)
    rcases hn : ix 17 n with _ | m
    · refine gx_iload_n C 2 dd_Mo_fresh_7 (kk := ?_)
      refine gx_if_lt C 17 dd_Mo_fresh_8 (fun h8 => ?_) (fun h8 => ?_)
      · refine gx_iconst (v := nI 0) C dd_Mo_fresh_17 (kk := ?_)
        refine gx_zret C dd_Mo_fresh_18 (by first | rfl | exact fb_nar) ?_
        have hsp : o_fresh σ (nI i) n = (nI 0, σ) := by
          unfold o_fresh
          simp only [hi, hn]
        rw [hsp]
        exact ⟨F, L, S, rfl, hr, rfl⟩
      · refine gx_iload_n C 2 dd_Mo_fresh_11 (kk := ?_)
        refine gx_bipush (v := nI 16) C dd_Mo_fresh_12 (kk := ?_)
        refine gx_icmp_le C 19 dd_Mo_fresh_14 (fun h14 => absurd h14 (ix_nle (by decide) hn h8)) (fun h14 => ?_)
        refine gx_iconst (v := nI 0) C dd_Mo_fresh_17 (kk := ?_)
        refine gx_zret C dd_Mo_fresh_18 (by first | rfl | exact fb_nar) ?_
        have hsp : o_fresh σ (nI i) n = (nI 0, σ) := by
          unfold o_fresh
          simp only [hi, hn]
        rw [hsp]
        exact ⟨F, L, S, rfl, hr, rfl⟩
    · obtain ⟨hm, rfl⟩ := ix_of (by decide) hn
      refine gx_iload_n C 2 dd_Mo_fresh_7 (kk := ?_)
      refine gx_if_lt C 17 dd_Mo_fresh_8 (fun h8 => absurd h8 (nI_pos (by omega))) (fun h8 => ?_)
      refine gx_iload_n C 2 dd_Mo_fresh_11 (kk := ?_)
      refine gx_bipush (v := nI 16) C dd_Mo_fresh_12 (kk := ?_)
      refine gx_icmp_le C 19 dd_Mo_fresh_14 (fun h14 => ?_) (fun h14 => absurd (nI_le (a := m) (b := 16) (by omega) (by decide)) h14)
      refine gx_aload_n C 0 dd_Mo_fresh_19 (kk := ?_)
      refine gx_iload_n C 1 dd_Mo_fresh_20 (kk := ?_)
      refine gx_iload_n C 2 dd_Mo_fresh_21 (kk := ?_)
      refine gx_callV C (ct_Mo_blank (gx_l K) D dA ad h F L S (s := i) (n := m) (by omega)) me_Mo_blank ml_Mo_75 mn_Mo_blank _ (gx_w_at (by decide) mo_h_43) rfl dd_Mo_fresh_22 (kk := fun v w hq => ?_)
      obtain ⟨rfl, F2, L2, rfl, hM2, hf2⟩ := hq
      refine gx_iconst (v := nI 1) C dd_Mo_fresh_25 (kk := ?_)
      refine gx_zret C dd_Mo_fresh_26 (by first | rfl | exact fb_nar) ?_
      have hsp : o_fresh σ (nI i) (nI m) = (nI 1, o_set σ i (m, none, (fun _ => none), [])) := by
        unfold o_fresh
        simp only [hi, hn]
      rw [hsp]
      exact ⟨F2, L2, S, rfl, rs_set hf2 hM2 hr, rfl⟩
set_option maxRecDepth 100000 in
set_option maxHeartbeats 4000000 in
theorem ct_Mo_start (l : Launch) (D : va_G) (dA : Nat → ClassId) (ad : Nat → Nat) (h : Nat → va_E) (F : mo_F) (L : mo_L) (S : Nat → Int32) {σ : sg} (hr : rs F L S σ) (hσ : sg_ok σ) (s q w0 : Int32) : gx_Ct l D dA yy_Mo_start cc_Mo_start 4 (some .boolean) 2 0 0 [.ref (ad 43), .int s, .int q, .int w0] (gx_w ad (mo_h dA ad h F L S)) (fun v w => ∃ F2 L2 S2, w = (gx_w ad (mo_h dA ad h F2 L2 S2)) ∧ rs F2 L2 S2 (o_start σ s q w0).2 ∧ v = some (.int (o_start σ s q w0).1)) := by
  refine gx_of (by decide) (Nat.le_of_ble_eq_true rfl) (fun K C _ _ => ?_)
  have hM := hr.1
  have hP := hr.2.1
  have hX := hr.2.2
  refine gx_aload_n C 0 dd_Mo_start_0 (kk := ?_)
  refine gx_iload_n C 1 dd_Mo_start_1 (kk := ?_)
  refine gx_iload_n C 2 dd_Mo_start_2 (kk := ?_)
  refine gx_callV C (ct_Mo_isState (gx_l K) D dA ad h F L S hM s q) me_Mo_isState ml_Mo_87 mn_Mo_isState _ (gx_w_at (by decide) mo_h_43) rfl dd_Mo_start_3 (kk := fun v w hq => ?_)
  obtain ⟨rfl, rfl⟩ := hq
  rcases hx : o_is σ s q with _ | x
  · refine gx_if_eq C 17 dd_Mo_start_6 (fun h6 => ?_) (fun h6 => absurd rfl h6)
    refine gx_iconst (v := nI 0) C dd_Mo_start_17 (kk := ?_)
    refine gx_zret C dd_Mo_start_18 (by first | rfl | exact fb_nar) ?_
    have hsp : o_start σ s q w0 = (nI 0, σ) := by
      unfold o_start
      simp only [hx]
    rw [hsp]
    exact ⟨F, L, S, rfl, hr, rfl⟩
  · obtain ⟨hx4, rfl, hxq, rfl⟩ := o_is_of hσ hx
    have hok := hσ.1 x.1 hx4
    have hn16 := hok.1.1
    refine gx_if_eq C 17 dd_Mo_start_6 (fun h6 => absurd (show true = false from fb_0.mp h6) (by decide)) (fun h6 => ?_)
    refine gx_iload_n C 3 dd_Mo_start_9 (kk := ?_)
    refine gx_i2l C dd_Mo_start_10 (w := w0.toInt64) (hv := rfl) (kk := ?_)
    refine gx_callS C (ct_Mo_isWeight (gx_l K) D dA _ w0.toInt64) me_Mo_isWeight ml_Mo_91 ms_Mo_isWeight dd_Mo_start_11 (kk := fun v w hq => ?_)
    obtain ⟨rfl, rfl⟩ := hq
    refine gx_topi _ (ix_w w0) ?_
    rcases hw : ix 1000000001 w0 with _ | m
    · refine gx_if_ne C 19 dd_Mo_start_14 (fun h14 => absurd rfl h14) (fun h14 => ?_)
      refine gx_iconst (v := nI 0) C dd_Mo_start_17 (kk := ?_)
      refine gx_zret C dd_Mo_start_18 (by first | rfl | exact fb_nar) ?_
      have hsp : o_start σ (nI x.1) (nI x.2) w0 = (nI 0, σ) := by
        unfold o_start
        simp only [hx, hw]
      rw [hsp]
      exact ⟨F, L, S, rfl, hr, rfl⟩
    · obtain ⟨hm, rfl⟩ := ix_of (by decide) hw
      refine gx_if_ne C 19 dd_Mo_start_14 (fun h14 => ?_) (fun h14 => absurd (show true = false from fb_0.mp h14) (by decide))
      refine gx_aload_n C 0 dd_Mo_start_19 (kk := ?_)
      refine mo_get C fd_Mo_13 dd_Mo_start_20 (kk := ?_)
      refine gx_iload_n C 1 dd_Mo_start_23 (kk := ?_)
      refine gx_iload_n C 2 dd_Mo_start_24 (kk := ?_)
      refine mo_s45 C dd_Mo_start_25 (by omega) (kk := fun F25 hF25 => ?_)
      refine gx_aload_n C 0 dd_Mo_start_26 (kk := ?_)
      refine mo_get C fd_Mo_16 dd_Mo_start_27 (kk := ?_)
      refine gx_iload_n C 1 dd_Mo_start_30 (kk := ?_)
      refine gx_iload_n C 3 dd_Mo_start_31 (kk := ?_)
      refine gx_i2l C dd_Mo_start_32 (w := (nI m).toInt64) (hv := rfl) (kk := ?_)
      refine mo_s46 C dd_Mo_start_33 (by omega) (kk := fun L33 hL33 => ?_)
      refine gx_iconst (v := nI 1) C dd_Mo_start_34 (kk := ?_)
      refine gx_zret C dd_Mo_start_35 (by first | rfl | exact fb_nar) ?_
      have hsp : o_start σ (nI x.1) (nI x.2) (nI m) = (nI 1, o_set σ x.1 (am_n (σ.1 x.1), some (x.2, m), am_en (σ.1 x.1), am_ar (σ.1 x.1))) := by
        unfold o_start
        simp only [hx, hw]
      rw [hsp]
      exact ⟨F25, L33, S, rfl, rs_set (mo_fr_tr (mo_fr_45 hF25) (mo_fr_46 hL33)) (mo_is_st hF25 hL33 (nI_l (by omega)) (hM x.1 hx4)) hr, rfl⟩
set_option maxRecDepth 100000 in
set_option maxHeartbeats 4000000 in
theorem ct_Mo_end (l : Launch) (D : va_G) (dA : Nat → ClassId) (ad : Nat → Nat) (h : Nat → va_E) (F : mo_F) (L : mo_L) (S : Nat → Int32) {σ : sg} (hr : rs F L S σ) (hσ : sg_ok σ) (s q w0 : Int32) : gx_Ct l D dA yy_Mo_end cc_Mo_end 4 (some .boolean) 2 0 0 [.ref (ad 43), .int s, .int q, .int w0] (gx_w ad (mo_h dA ad h F L S)) (fun v w => ∃ F2 L2 S2, w = (gx_w ad (mo_h dA ad h F2 L2 S2)) ∧ rs F2 L2 S2 (o_end σ s q w0).2 ∧ v = some (.int (o_end σ s q w0).1)) := by
  refine gx_of (by decide) (Nat.le_of_ble_eq_true rfl) (fun K C _ _ => ?_)
  have hM := hr.1
  have hP := hr.2.1
  have hX := hr.2.2
  refine gx_aload_n C 0 dd_Mo_end_0 (kk := ?_)
  refine gx_iload_n C 1 dd_Mo_end_1 (kk := ?_)
  refine gx_iload_n C 2 dd_Mo_end_2 (kk := ?_)
  refine gx_callV C (ct_Mo_isState (gx_l K) D dA ad h F L S hM s q) me_Mo_isState ml_Mo_87 mn_Mo_isState _ (gx_w_at (by decide) mo_h_43) rfl dd_Mo_end_3 (kk := fun v w hq => ?_)
  obtain ⟨rfl, rfl⟩ := hq
  rcases hx : o_is σ s q with _ | x
  · refine gx_if_eq C 22 dd_Mo_end_6 (fun h6 => ?_) (fun h6 => absurd rfl h6)
    refine gx_iconst (v := nI 0) C dd_Mo_end_22 (kk := ?_)
    refine gx_zret C dd_Mo_end_23 (by first | rfl | exact fb_nar) ?_
    have hsp : o_end σ s q w0 = (nI 0, σ) := by
      unfold o_end
      simp only [hx]
    rw [hsp]
    exact ⟨F, L, S, rfl, hr, rfl⟩
  · obtain ⟨hx4, rfl, hxq, rfl⟩ := o_is_of hσ hx
    have hok := hσ.1 x.1 hx4
    have hn16 := hok.1.1
    refine gx_if_eq C 22 dd_Mo_end_6 (fun h6 => absurd (show true = false from fb_0.mp h6) (by decide)) (fun h6 => ?_)
    by_cases hw1 : w0 = -1
    · subst hw1
      refine gx_iload_n C 3 dd_Mo_end_9 (kk := ?_)
      refine gx_iconst (v := -1) C dd_Mo_end_10 (kk := ?_)
      refine gx_icmp_eq C 24 dd_Mo_end_11 (fun h11 => ?_) (fun h11 => absurd rfl h11)
      refine gx_aload_n C 0 dd_Mo_end_24 (kk := ?_)
      refine mo_get C fd_Mo_20 dd_Mo_end_25 (kk := ?_)
      refine gx_bipush (v := nI 16) C dd_Mo_end_28 (kk := ?_)
      refine gx_iload_n C 1 dd_Mo_end_30 (kk := ?_)
      refine gx_imul C dd_Mo_end_31 (kk := ?_)
      refine gx_topi _ (pk_mul _ _) ?_
      refine gx_iload_n C 2 dd_Mo_end_32 (kk := ?_)
      refine gx_iadd C dd_Mo_end_33 (kk := ?_)
      refine gx_topi _ (nI_add _ _) ?_
      refine gx_iload_n C 3 dd_Mo_end_34 (kk := ?_)
      refine gx_i2l C dd_Mo_end_35 (w := (-1).toInt64) (hv := rfl) (kk := ?_)
      refine mo_s47 C dd_Mo_end_36 (by omega) (kk := fun L36 hL36 => ?_)
      refine gx_iconst (v := nI 1) C dd_Mo_end_37 (kk := ?_)
      refine gx_zret C dd_Mo_end_38 (by first | rfl | exact fb_nar) ?_
      have hoe : o_e (-1) = some none := rfl
      have hsp : o_end σ (nI x.1) (nI x.2) (-1) = (nI 1, o_set σ x.1 (am_n (σ.1 x.1), am_st (σ.1 x.1), va_up (am_en (σ.1 x.1)) x.2 none, am_ar (σ.1 x.1))) := by
        unfold o_end
        simp only [hx, hoe]
      rw [hsp]
      exact ⟨F, L36, S, rfl, rs_set (mo_fr_47 (by omega) hL36) (mo_is_en hL36 rfl (hM x.1 hx4)) hr, rfl⟩
    · refine gx_iload_n C 3 dd_Mo_end_9 (kk := ?_)
      refine gx_iconst (v := -1) C dd_Mo_end_10 (kk := ?_)
      refine gx_icmp_eq C 24 dd_Mo_end_11 (fun h11 => absurd h11 hw1) (fun h11 => ?_)
      refine gx_iload_n C 3 dd_Mo_end_14 (kk := ?_)
      refine gx_i2l C dd_Mo_end_15 (w := w0.toInt64) (hv := rfl) (kk := ?_)
      refine gx_callS C (ct_Mo_isWeight (gx_l K) D dA _ w0.toInt64) me_Mo_isWeight ml_Mo_91 ms_Mo_isWeight dd_Mo_end_16 (kk := fun v w hq => ?_)
      obtain ⟨rfl, rfl⟩ := hq
      refine gx_topi _ (ix_w w0) ?_
      rcases hw : ix 1000000001 w0 with _ | m
      · refine gx_if_ne C 24 dd_Mo_end_19 (fun h19 => absurd rfl h19) (fun h19 => ?_)
        refine gx_iconst (v := nI 0) C dd_Mo_end_22 (kk := ?_)
        refine gx_zret C dd_Mo_end_23 (by first | rfl | exact fb_nar) ?_
        have hoe : o_e w0 = none := by
          unfold o_e
          simp only [hw, if_neg hw1]
        have hsp : o_end σ (nI x.1) (nI x.2) w0 = (nI 0, σ) := by
          unfold o_end
          simp only [hx, hoe]
        rw [hsp]
        exact ⟨F, L, S, rfl, hr, rfl⟩
      · obtain ⟨hm, rfl⟩ := ix_of (by decide) hw
        refine gx_if_ne C 24 dd_Mo_end_19 (fun h19 => ?_) (fun h19 => absurd (show true = false from fb_0.mp h19) (by decide))
        refine gx_aload_n C 0 dd_Mo_end_24 (kk := ?_)
        refine mo_get C fd_Mo_20 dd_Mo_end_25 (kk := ?_)
        refine gx_bipush (v := nI 16) C dd_Mo_end_28 (kk := ?_)
        refine gx_iload_n C 1 dd_Mo_end_30 (kk := ?_)
        refine gx_imul C dd_Mo_end_31 (kk := ?_)
        refine gx_topi _ (pk_mul _ _) ?_
        refine gx_iload_n C 2 dd_Mo_end_32 (kk := ?_)
        refine gx_iadd C dd_Mo_end_33 (kk := ?_)
        refine gx_topi _ (nI_add _ _) ?_
        refine gx_iload_n C 3 dd_Mo_end_34 (kk := ?_)
        refine gx_i2l C dd_Mo_end_35 (w := (nI m).toInt64) (hv := rfl) (kk := ?_)
        refine mo_s47 C dd_Mo_end_36 (by omega) (kk := fun L36 hL36 => ?_)
        refine gx_iconst (v := nI 1) C dd_Mo_end_37 (kk := ?_)
        refine gx_zret C dd_Mo_end_38 (by first | rfl | exact fb_nar) ?_
        have hoe : o_e (nI m) = some (some m) := by
          unfold o_e
          simp only [hw, if_neg hw1]
        have hsp : o_end σ (nI x.1) (nI x.2) (nI m) = (nI 1, o_set σ x.1 (am_n (σ.1 x.1), am_st (σ.1 x.1), va_up (am_en (σ.1 x.1)) x.2 (some m), am_ar (σ.1 x.1))) := by
          unfold o_end
          simp only [hx, hoe]
        rw [hsp]
        exact ⟨F, L36, S, rfl, rs_set (mo_fr_47 (by omega) hL36) (mo_is_en hL36 (nI_l (by omega)) (hM x.1 hx4)) hr, rfl⟩
set_option maxRecDepth 100000 in
set_option maxHeartbeats 4000000 in
theorem ct_Mo_arc (l : Launch) (D : va_G) (dA : Nat → ClassId) (ad : Nat → Nat) (h : Nat → va_E) (F : mo_F) (L : mo_L) (S : Nat → Int32) {σ : sg} (hr : rs F L S σ) (hσ : sg_ok σ) (s f0 t0 g0 w0 : Int32) : gx_Ct l D dA yy_Mo_arc cc_Mo_arc 6 (some .int) 2 0 0 [.ref (ad 43), .int s, .int f0, .int t0, .int g0, .int w0] (gx_w ad (mo_h dA ad h F L S)) (fun v w => ∃ F2 L2 S2, w = (gx_w ad (mo_h dA ad h F2 L2 S2)) ∧ rs F2 L2 S2 (o_arc σ s f0 t0 g0 w0).2 ∧ v = some (.int (o_arc σ s f0 t0 g0 w0).1)) := by
  refine gx_of (by decide) (Nat.le_of_ble_eq_true rfl) (fun K C _ _ => ?_)
  have hM := hr.1
  have hP := hr.2.1
  have hX := hr.2.2
  refine gx_aload_n C 0 dd_Mo_arc_0 (kk := ?_)
  refine gx_iload_n C 1 dd_Mo_arc_1 (kk := ?_)
  refine gx_iload_n C 2 dd_Mo_arc_2 (kk := ?_)
  refine gx_callV C (ct_Mo_isState (gx_l K) D dA ad h F L S hM s f0) me_Mo_isState ml_Mo_87 mn_Mo_isState _ (gx_w_at (by decide) mo_h_43) rfl dd_Mo_arc_3 (kk := fun v w hq => ?_)
  obtain ⟨rfl, rfl⟩ := hq
  rcases hx : o_is σ s f0 with _ | x
  · refine gx_if_eq C 39 dd_Mo_arc_6 (fun h6 => ?_) (fun h6 => absurd rfl h6)
    refine gx_iconst (v := -1) C dd_Mo_arc_39 (kk := ?_)
    refine gx_iret C dd_Mo_arc_40 ?_
    have hsp : o_arc σ s f0 t0 g0 w0 = (-1, σ) := by
      unfold o_arc
      simp only [hx]
    rw [hsp]
    exact ⟨F, L, S, rfl, hr, rfl⟩
  · obtain ⟨hx4, rfl, hxq, rfl⟩ := o_is_of hσ hx
    have hok := hσ.1 x.1 hx4
    have hn16 := hok.1.1
    refine gx_if_eq C 39 dd_Mo_arc_6 (fun h6 => absurd (show true = false from fb_0.mp h6) (by decide)) (fun h6 => ?_)
    refine gx_aload_n C 0 dd_Mo_arc_9 (kk := ?_)
    refine gx_iload_n C 1 dd_Mo_arc_10 (kk := ?_)
    refine gx_iload_n C 3 dd_Mo_arc_11 (kk := ?_)
    refine gx_callV C (ct_Mo_isState (gx_l K) D dA ad h F L S hM (nI x.1) t0) me_Mo_isState ml_Mo_87 mn_Mo_isState _ (gx_w_at (by decide) mo_h_43) rfl dd_Mo_arc_12 (kk := fun v w hq => ?_)
    obtain ⟨rfl, rfl⟩ := hq
    rcases hy : o_is σ (nI x.1) t0 with _ | y
    · refine gx_if_eq C 39 dd_Mo_arc_15 (fun h15 => ?_) (fun h15 => absurd rfl h15)
      refine gx_iconst (v := -1) C dd_Mo_arc_39 (kk := ?_)
      refine gx_iret C dd_Mo_arc_40 ?_
      have hsp : o_arc σ (nI x.1) (nI x.2) t0 g0 w0 = (-1, σ) := by
        unfold o_arc
        simp only [hx, hy]
      rw [hsp]
      exact ⟨F, L, S, rfl, hr, rfl⟩
    · obtain ⟨hy4, hys, hyq, rfl⟩ := o_is_of hσ hy
      have hyx : y.1 = x.1 := ((nI_eq (by omega) (by omega)).mp hys).symm
      rw [hyx] at hyq
      refine gx_if_eq C 39 dd_Mo_arc_15 (fun h15 => absurd (show true = false from fb_0.mp h15) (by decide)) (fun h15 => ?_)
      rcases hg : ix 64 g0 with _ | g
      · refine gx_iload C 4 dd_Mo_arc_18 (kk := ?_)
        refine gx_if_lt C 39 dd_Mo_arc_20 (fun h20 => ?_) (fun h20 => ?_)
        · refine gx_iconst (v := -1) C dd_Mo_arc_39 (kk := ?_)
          refine gx_iret C dd_Mo_arc_40 ?_
          have hsp : o_arc σ (nI x.1) (nI x.2) (nI y.2) g0 w0 = (-1, σ) := by
            unfold o_arc
            simp only [hx, hy, hg]
          rw [hsp]
          exact ⟨F, L, S, rfl, hr, rfl⟩
        · refine gx_iload C 4 dd_Mo_arc_23 (kk := ?_)
          refine gx_bipush (v := nI 63) C dd_Mo_arc_25 (kk := ?_)
          refine gx_icmp_gt C 39 dd_Mo_arc_27 (fun h27 => ?_) (fun h27 => absurd (Int32.not_lt.mp h27) (ix_nle (by decide) hg h20))
          refine gx_iconst (v := -1) C dd_Mo_arc_39 (kk := ?_)
          refine gx_iret C dd_Mo_arc_40 ?_
          have hsp : o_arc σ (nI x.1) (nI x.2) (nI y.2) g0 w0 = (-1, σ) := by
            unfold o_arc
            simp only [hx, hy, hg]
          rw [hsp]
          exact ⟨F, L, S, rfl, hr, rfl⟩
      · obtain ⟨hg64, rfl⟩ := ix_of (by decide) hg
        refine gx_iload C 4 dd_Mo_arc_18 (kk := ?_)
        refine gx_if_lt C 39 dd_Mo_arc_20 (fun h20 => absurd h20 (nI_pos (by omega))) (fun h20 => ?_)
        refine gx_iload C 4 dd_Mo_arc_23 (kk := ?_)
        refine gx_bipush (v := nI 63) C dd_Mo_arc_25 (kk := ?_)
        refine gx_icmp_gt C 39 dd_Mo_arc_27 (fun h27 => absurd h27 (nI_nlt (by omega) (by omega))) (fun h27 => ?_)
        refine gx_iload C 5 dd_Mo_arc_30 (kk := ?_)
        refine gx_i2l C dd_Mo_arc_32 (w := w0.toInt64) (hv := rfl) (kk := ?_)
        refine gx_callS C (ct_Mo_isWeight (gx_l K) D dA _ w0.toInt64) me_Mo_isWeight ml_Mo_91 ms_Mo_isWeight dd_Mo_arc_33 (kk := fun v w hq => ?_)
        obtain ⟨rfl, rfl⟩ := hq
        refine gx_topi _ (ix_w w0) ?_
        rcases hw : ix 1000000001 w0 with _ | m
        · refine gx_if_ne C 41 dd_Mo_arc_36 (fun h36 => absurd rfl h36) (fun h36 => ?_)
          refine gx_iconst (v := -1) C dd_Mo_arc_39 (kk := ?_)
          refine gx_iret C dd_Mo_arc_40 ?_
          have hsp : o_arc σ (nI x.1) (nI x.2) (nI y.2) (nI g) w0 = (-1, σ) := by
            unfold o_arc
            simp only [hx, hy, hg, hw]
          rw [hsp]
          exact ⟨F, L, S, rfl, hr, rfl⟩
        · obtain ⟨hm, rfl⟩ := ix_of (by decide) hw
          refine gx_if_ne C 41 dd_Mo_arc_36 (fun h36 => ?_) (fun h36 => absurd (show true = false from fb_0.mp h36) (by decide))
          refine gx_aload_n C 0 dd_Mo_arc_41 (kk := ?_)
          refine gx_iload_n C 1 dd_Mo_arc_42 (kk := ?_)
          refine gx_iload_n C 2 dd_Mo_arc_43 (kk := ?_)
          refine gx_iload_n C 3 dd_Mo_arc_44 (kk := ?_)
          refine gx_iload C 4 dd_Mo_arc_45 (kk := ?_)
          refine gx_bipush (v := nI 8) C dd_Mo_arc_47 (kk := ?_)
          refine gx_idiv C dd_Mo_arc_49 (kk := ?_)
          refine gx_topi _ (pk_div (by omega) (by decide) (by decide)) ?_
          refine gx_iload C 4 dd_Mo_arc_50 (kk := ?_)
          refine gx_bipush (v := nI 8) C dd_Mo_arc_52 (kk := ?_)
          refine gx_irem C dd_Mo_arc_54 (kk := ?_)
          refine gx_topi _ (pk_rem (by omega) (by decide) (by decide)) ?_
          refine gx_iload C 5 dd_Mo_arc_55 (kk := ?_)
          refine gx_i2l C dd_Mo_arc_57 (w := lN m) (hv := nI_l (by omega)) (kk := ?_)
          refine gx_callV C (ct_Mo_put (gx_l K) D dA ad h F L S (s := x.1) (f := x.2) (t := y.2) (i := g / 8) (o := g % 8) (x0 := m) (B := 1000000001) (a := σ.1 x.1) (by omega) (hM x.1 hx4) hok.2.1 (fun z hz => (hok.1.2.2.1 z hz).1) (fun z hz => (hok.1.2.2.1 z hz).2) (by decide) (by omega) (by omega) (by omega) (by omega) (by omega)) me_Mo_put ml_Mo_99 mn_Mo_put _ (gx_w_at (by decide) mo_h_43) rfl dd_Mo_arc_58 (kk := fun v w hq => ?_)
          rw [show pr_k x.2 (g / 8) (g % 8) y.2 = x.2 * 1024 + g * 16 + y.2 by unfold pr_k; omega] at hq
          rcases hq with ⟨hr3, rfl, F2, L2, rfl, hM2, hf2⟩ | ⟨hr3, rfl, rfl⟩
          · refine gx_if_eq C 73 dd_Mo_arc_61 (fun h61 => absurd h61 (by decide)) (fun h61 => ?_)
            refine gx_aload_n C 0 dd_Mo_arc_64 (kk := ?_)
            refine mo_get C fd_Mo_23 dd_Mo_arc_65 (kk := ?_)
            refine gx_iload_n C 1 dd_Mo_arc_68 (kk := ?_)
            refine mo_l48 C dd_Mo_arc_69 (by omega) (kk := ?_)
            refine gx_topi (nI (am_in (x.2 * 1024 + g * 16 + y.2) m (am_ar (σ.1 x.1))).length) hM2.2.2.2.1 ?_
            refine gx_goto C 75 dd_Mo_arc_70 (kk := ?_)
            refine gx_iret C dd_Mo_arc_75 ?_
            have hsp : o_arc σ (nI x.1) (nI x.2) (nI y.2) (nI g) (nI m) = (nI (am_in (x.2 * 1024 + g * 16 + y.2) m (am_ar (σ.1 x.1))).length, o_set σ x.1 (am_n (σ.1 x.1), am_st (σ.1 x.1), am_en (σ.1 x.1), am_in (x.2 * 1024 + g * 16 + y.2) m (am_ar (σ.1 x.1)))) := by
              unfold o_arc
              simp only [hx, hy, hw, hg]
              rw [if_pos hr3]
            rw [hsp]
            exact ⟨F2, L2, S, rfl, rs_set hf2 hM2 hr, rfl⟩
          · refine gx_if_eq C 73 dd_Mo_arc_61 (fun h61 => ?_) (fun h61 => absurd rfl h61)
            refine gx_bipush (v := -2) C dd_Mo_arc_73 (kk := ?_)
            refine gx_iret C dd_Mo_arc_75 ?_
            have hsp : o_arc σ (nI x.1) (nI x.2) (nI y.2) (nI g) (nI m) = (-2, σ) := by
              unfold o_arc
              simp only [hx, hy, hw, hg]
              rw [if_neg (by rw [hr3]; decide)]
            rw [hsp]
            exact ⟨F, L, S, rfl, hr, rfl⟩
set_option maxRecDepth 100000 in
set_option maxHeartbeats 4000000 in
theorem ct_Mo_endOf (l : Launch) (D : va_G) (dA : Nat → ClassId) (ad : Nat → Nat) (h : Nat → va_E) (F : mo_F) (L : mo_L) (S : Nat → Int32) {σ : sg} (hr : rs F L S σ) (hσ : sg_ok σ) (s q : Int32) : gx_Ct l D dA yy_Mo_endOf cc_Mo_endOf 3 (some .int) 2 0 0 [.ref (ad 43), .int s, .int q] (gx_w ad (mo_h dA ad h F L S)) (fun v w => ∃ F2 L2 S2, w = (gx_w ad (mo_h dA ad h F2 L2 S2)) ∧ rs F2 L2 S2 (o_endOf σ s q).2 ∧ v = some (.int (o_endOf σ s q).1)) := by
  refine gx_of (by decide) (Nat.le_of_ble_eq_true rfl) (fun K C _ _ => ?_)
  have hM := hr.1
  have hP := hr.2.1
  have hX := hr.2.2
  refine gx_aload_n C 0 dd_Mo_endOf_0 (kk := ?_)
  refine gx_iload_n C 1 dd_Mo_endOf_1 (kk := ?_)
  refine gx_iload_n C 2 dd_Mo_endOf_2 (kk := ?_)
  refine gx_callV C (ct_Mo_isState (gx_l K) D dA ad h F L S hM s q) me_Mo_isState ml_Mo_87 mn_Mo_isState _ (gx_w_at (by decide) mo_h_43) rfl dd_Mo_endOf_3 (kk := fun v w hq => ?_)
  obtain ⟨rfl, rfl⟩ := hq
  rcases hx : o_is σ s q with _ | x
  · refine gx_if_eq C 24 dd_Mo_endOf_6 (fun h6 => ?_) (fun h6 => absurd rfl h6)
    refine gx_iconst (v := -1) C dd_Mo_endOf_24 (kk := ?_)
    refine gx_iret C dd_Mo_endOf_25 ?_
    have hsp : o_endOf σ s q = (-1, σ) := by
      unfold o_endOf
      simp only [hx]
    rw [hsp]
    exact ⟨F, L, S, rfl, hr, rfl⟩
  · obtain ⟨hx4, rfl, hxq, rfl⟩ := o_is_of hσ hx
    have hok := hσ.1 x.1 hx4
    have hn16 := hok.1.1
    refine gx_if_eq C 24 dd_Mo_endOf_6 (fun h6 => absurd (show true = false from fb_0.mp h6) (by decide)) (fun h6 => ?_)
    refine gx_aload_n C 0 dd_Mo_endOf_9 (kk := ?_)
    refine mo_get C fd_Mo_20 dd_Mo_endOf_10 (kk := ?_)
    refine gx_bipush (v := nI 16) C dd_Mo_endOf_13 (kk := ?_)
    refine gx_iload_n C 1 dd_Mo_endOf_15 (kk := ?_)
    refine gx_imul C dd_Mo_endOf_16 (kk := ?_)
    refine gx_topi _ (pk_mul _ _) ?_
    refine gx_iload_n C 2 dd_Mo_endOf_17 (kk := ?_)
    refine gx_iadd C dd_Mo_endOf_18 (kk := ?_)
    refine gx_topi _ (nI_add _ _) ?_
    refine mo_l47 C dd_Mo_endOf_19 (by omega) (kk := ?_)
    refine gx_topl _ ((hM x.1 hx4).2.2.1 x.2 (by omega)) ?_
    refine gx_l2i C dd_Mo_endOf_20 (w := on_r (am_en (σ.1 x.1) x.2)) (hv := on_ri) (kk := ?_)
    refine gx_goto C 25 dd_Mo_endOf_21 (kk := ?_)
    refine gx_iret C dd_Mo_endOf_25 ?_
    have hsp : o_endOf σ (nI x.1) (nI x.2) = (on_r (am_en (σ.1 x.1) x.2), σ) := by
      unfold o_endOf
      simp only [hx]
    rw [hsp]
    exact ⟨F, L, S, rfl, hr, rfl⟩
set_option maxRecDepth 100000 in
set_option maxHeartbeats 4000000 in
theorem ct_Mo_step (l : Launch) (D : va_G) (dA : Nat → ClassId) (ad : Nat → Nat) (h : Nat → va_E) (F : mo_F) (L : mo_L) (S : Nat → Int32) {σ : sg} (hr : rs F L S σ) (hσ : sg_ok σ) (k what : Int32) : gx_Ct l D dA yy_Mo_step cc_Mo_step 3 (some .int) 0 0 0 [.ref (ad 43), .int k, .int what] (gx_w ad (mo_h dA ad h F L S)) (fun v w => ∃ F2 L2 S2, w = (gx_w ad (mo_h dA ad h F2 L2 S2)) ∧ rs F2 L2 S2 (o_step σ k what).2 ∧ v = some (.int (o_step σ k what).1)) := by
  refine gx_of (by decide) (Nat.le_of_ble_eq_true rfl) (fun K C _ _ => ?_)
  have hM := hr.1
  have hP := hr.2.1
  have hX := hr.2.2
  have hp16 := hσ.2.1
  rcases hk : ix σ.2.1.length k with _ | j
  · refine gx_iload_n C 1 dd_Mo_step_0 (kk := ?_)
    refine gx_if_lt C 21 dd_Mo_step_1 (fun h1 => ?_) (fun h1 => ?_)
    · refine gx_iconst (v := -1) C dd_Mo_step_21 (kk := ?_)
      refine gx_iret C dd_Mo_step_22 ?_
      have hpt : o_pt σ.2.1 k what = -1 := by
        unfold o_pt
        simp only [hk]
      exact ⟨F, L, S, rfl, hr, by rw [o_step, hpt]⟩
    · refine gx_iload_n C 1 dd_Mo_step_4 (kk := ?_)
      refine gx_aload_n C 0 dd_Mo_step_5 (kk := ?_)
      refine mo_get C fd_Mo_177 dd_Mo_step_6 (kk := ?_)
      refine gx_topi _ hP.1 ?_
      refine gx_icmp_ge C 21 dd_Mo_step_9 (fun h9 => ?_) (fun h9 => absurd (Int32.not_le.mp h9) (ix_nlt hk h1))
      refine gx_iconst (v := -1) C dd_Mo_step_21 (kk := ?_)
      refine gx_iret C dd_Mo_step_22 ?_
      have hpt : o_pt σ.2.1 k what = -1 := by
        unfold o_pt
        simp only [hk]
      exact ⟨F, L, S, rfl, hr, by rw [o_step, hpt]⟩
  · obtain ⟨hj, rfl⟩ := ix_of (by omega) hk
    obtain ⟨x, hx⟩ : ∃ x, σ.2.1[j]? = some x := ⟨_, List.getElem?_eq_getElem hj⟩
    refine gx_iload_n C 1 dd_Mo_step_0 (kk := ?_)
    refine gx_if_lt C 21 dd_Mo_step_1 (fun h1 => absurd h1 (nI_pos (by omega))) (fun h1 => ?_)
    refine gx_iload_n C 1 dd_Mo_step_4 (kk := ?_)
    refine gx_aload_n C 0 dd_Mo_step_5 (kk := ?_)
    refine mo_get C fd_Mo_177 dd_Mo_step_6 (kk := ?_)
    refine gx_topi _ hP.1 ?_
    refine gx_icmp_ge C 21 dd_Mo_step_9 (fun h9 => absurd h9 (nI_ge (by omega) (by omega))) (fun h9 => ?_)
    rcases ix_5 what with hwt | rfl | rfl | rfl | rfl | rfl
    · refine gx_iload_n C 2 dd_Mo_step_12 (kk := ?_)
      refine gx_if_lt C 21 dd_Mo_step_13 (fun h13 => ?_) (fun h13 => ?_)
      · refine gx_iconst (v := -1) C dd_Mo_step_21 (kk := ?_)
        refine gx_iret C dd_Mo_step_22 ?_
        have hpt : o_pt σ.2.1 (nI j) what = -1 := by
          unfold o_pt
          simp only [hk, hx, ap_N hwt]
        exact ⟨F, L, S, rfl, hr, by rw [o_step, hpt]⟩
      · refine gx_iload_n C 2 dd_Mo_step_16 (kk := ?_)
        refine gx_iconst (v := nI 4) C dd_Mo_step_17 (kk := ?_)
        refine gx_icmp_le C 23 dd_Mo_step_18 (fun h18 => absurd h18 (ix_nle (by decide) hwt h13)) (fun h18 => ?_)
        refine gx_iconst (v := -1) C dd_Mo_step_21 (kk := ?_)
        refine gx_iret C dd_Mo_step_22 ?_
        have hpt : o_pt σ.2.1 (nI j) what = -1 := by
          unfold o_pt
          simp only [hk, hx, ap_N hwt]
        exact ⟨F, L, S, rfl, hr, by rw [o_step, hpt]⟩
    · refine gx_iload_n C 2 dd_Mo_step_12 (kk := ?_)
      refine gx_if_lt C 21 dd_Mo_step_13 (fun h13 => absurd h13 (by decide)) (fun h13 => ?_)
      refine gx_iload_n C 2 dd_Mo_step_16 (kk := ?_)
      refine gx_iconst (v := nI 4) C dd_Mo_step_17 (kk := ?_)
      refine gx_icmp_le C 23 dd_Mo_step_18 (fun h18 => ?_) (fun h18 => absurd (by decide) h18)
      refine gx_iload_n C 2 dd_Mo_step_23 (kk := ?_)
      refine gx_iconst (v := nI 4) C dd_Mo_step_24 (kk := ?_)
      refine gx_icmp_ne C 38 dd_Mo_step_25 (fun h25 => ?_) (fun h25 => absurd h25 (by decide))
      refine gx_aload_n C 0 dd_Mo_step_38 (kk := ?_)
      refine mo_get C fd_Mo_41 dd_Mo_step_39 (kk := ?_)
      refine gx_iconst (v := nI 5) C dd_Mo_step_42 (kk := ?_)
      refine gx_iload_n C 1 dd_Mo_step_43 (kk := ?_)
      refine gx_imul C dd_Mo_step_44 (kk := ?_)
      refine gx_topi _ (pk_mul _ _) ?_
      refine gx_iload_n C 2 dd_Mo_step_45 (kk := ?_)
      refine gx_iadd C dd_Mo_step_46 (kk := ?_)
      refine gx_topi _ (nI_add _ _) ?_
      refine mo_l54 C dd_Mo_step_47 (by omega) (kk := ?_)
      refine gx_topi _ (hP.2 j x hx).1 ?_
      refine gx_iret C dd_Mo_step_48 ?_
      have hpt : o_pt σ.2.1 (nI j) (nI 0) = nI (x.1 / 1024) := by
        unfold o_pt
        simp only [hk, hx, ap_0]
      exact ⟨F, L, S, rfl, hr, by rw [o_step, hpt]⟩
    · refine gx_iload_n C 2 dd_Mo_step_12 (kk := ?_)
      refine gx_if_lt C 21 dd_Mo_step_13 (fun h13 => absurd h13 (by decide)) (fun h13 => ?_)
      refine gx_iload_n C 2 dd_Mo_step_16 (kk := ?_)
      refine gx_iconst (v := nI 4) C dd_Mo_step_17 (kk := ?_)
      refine gx_icmp_le C 23 dd_Mo_step_18 (fun h18 => ?_) (fun h18 => absurd (by decide) h18)
      refine gx_iload_n C 2 dd_Mo_step_23 (kk := ?_)
      refine gx_iconst (v := nI 4) C dd_Mo_step_24 (kk := ?_)
      refine gx_icmp_ne C 38 dd_Mo_step_25 (fun h25 => ?_) (fun h25 => absurd h25 (by decide))
      refine gx_aload_n C 0 dd_Mo_step_38 (kk := ?_)
      refine mo_get C fd_Mo_41 dd_Mo_step_39 (kk := ?_)
      refine gx_iconst (v := nI 5) C dd_Mo_step_42 (kk := ?_)
      refine gx_iload_n C 1 dd_Mo_step_43 (kk := ?_)
      refine gx_imul C dd_Mo_step_44 (kk := ?_)
      refine gx_topi _ (pk_mul _ _) ?_
      refine gx_iload_n C 2 dd_Mo_step_45 (kk := ?_)
      refine gx_iadd C dd_Mo_step_46 (kk := ?_)
      refine gx_topi _ (nI_add _ _) ?_
      refine mo_l54 C dd_Mo_step_47 (by omega) (kk := ?_)
      refine gx_topi _ (hP.2 j x hx).2.1 ?_
      refine gx_iret C dd_Mo_step_48 ?_
      have hpt : o_pt σ.2.1 (nI j) (nI 1) = nI (x.1 % 16) := by
        unfold o_pt
        simp only [hk, hx, ap_1]
      exact ⟨F, L, S, rfl, hr, by rw [o_step, hpt]⟩
    · refine gx_iload_n C 2 dd_Mo_step_12 (kk := ?_)
      refine gx_if_lt C 21 dd_Mo_step_13 (fun h13 => absurd h13 (by decide)) (fun h13 => ?_)
      refine gx_iload_n C 2 dd_Mo_step_16 (kk := ?_)
      refine gx_iconst (v := nI 4) C dd_Mo_step_17 (kk := ?_)
      refine gx_icmp_le C 23 dd_Mo_step_18 (fun h18 => ?_) (fun h18 => absurd (by decide) h18)
      refine gx_iload_n C 2 dd_Mo_step_23 (kk := ?_)
      refine gx_iconst (v := nI 4) C dd_Mo_step_24 (kk := ?_)
      refine gx_icmp_ne C 38 dd_Mo_step_25 (fun h25 => ?_) (fun h25 => absurd h25 (by decide))
      refine gx_aload_n C 0 dd_Mo_step_38 (kk := ?_)
      refine mo_get C fd_Mo_41 dd_Mo_step_39 (kk := ?_)
      refine gx_iconst (v := nI 5) C dd_Mo_step_42 (kk := ?_)
      refine gx_iload_n C 1 dd_Mo_step_43 (kk := ?_)
      refine gx_imul C dd_Mo_step_44 (kk := ?_)
      refine gx_topi _ (pk_mul _ _) ?_
      refine gx_iload_n C 2 dd_Mo_step_45 (kk := ?_)
      refine gx_iadd C dd_Mo_step_46 (kk := ?_)
      refine gx_topi _ (nI_add _ _) ?_
      refine mo_l54 C dd_Mo_step_47 (by omega) (kk := ?_)
      refine gx_topi _ (hP.2 j x hx).2.2.1 ?_
      refine gx_iret C dd_Mo_step_48 ?_
      have hpt : o_pt σ.2.1 (nI j) (nI 2) = nI (x.1 / 128 % 8) := by
        unfold o_pt
        simp only [hk, hx, ap_2]
      exact ⟨F, L, S, rfl, hr, by rw [o_step, hpt]⟩
    · refine gx_iload_n C 2 dd_Mo_step_12 (kk := ?_)
      refine gx_if_lt C 21 dd_Mo_step_13 (fun h13 => absurd h13 (by decide)) (fun h13 => ?_)
      refine gx_iload_n C 2 dd_Mo_step_16 (kk := ?_)
      refine gx_iconst (v := nI 4) C dd_Mo_step_17 (kk := ?_)
      refine gx_icmp_le C 23 dd_Mo_step_18 (fun h18 => ?_) (fun h18 => absurd (by decide) h18)
      refine gx_iload_n C 2 dd_Mo_step_23 (kk := ?_)
      refine gx_iconst (v := nI 4) C dd_Mo_step_24 (kk := ?_)
      refine gx_icmp_ne C 38 dd_Mo_step_25 (fun h25 => ?_) (fun h25 => absurd h25 (by decide))
      refine gx_aload_n C 0 dd_Mo_step_38 (kk := ?_)
      refine mo_get C fd_Mo_41 dd_Mo_step_39 (kk := ?_)
      refine gx_iconst (v := nI 5) C dd_Mo_step_42 (kk := ?_)
      refine gx_iload_n C 1 dd_Mo_step_43 (kk := ?_)
      refine gx_imul C dd_Mo_step_44 (kk := ?_)
      refine gx_topi _ (pk_mul _ _) ?_
      refine gx_iload_n C 2 dd_Mo_step_45 (kk := ?_)
      refine gx_iadd C dd_Mo_step_46 (kk := ?_)
      refine gx_topi _ (nI_add _ _) ?_
      refine mo_l54 C dd_Mo_step_47 (by omega) (kk := ?_)
      refine gx_topi _ (hP.2 j x hx).2.2.2.1 ?_
      refine gx_iret C dd_Mo_step_48 ?_
      have hpt : o_pt σ.2.1 (nI j) (nI 3) = nI (x.1 / 16 % 8) := by
        unfold o_pt
        simp only [hk, hx, ap_3]
      exact ⟨F, L, S, rfl, hr, by rw [o_step, hpt]⟩
    · refine gx_iload_n C 2 dd_Mo_step_12 (kk := ?_)
      refine gx_if_lt C 21 dd_Mo_step_13 (fun h13 => absurd h13 (by decide)) (fun h13 => ?_)
      refine gx_iload_n C 2 dd_Mo_step_16 (kk := ?_)
      refine gx_iconst (v := nI 4) C dd_Mo_step_17 (kk := ?_)
      refine gx_icmp_le C 23 dd_Mo_step_18 (fun h18 => ?_) (fun h18 => absurd (by decide) h18)
      refine gx_iload_n C 2 dd_Mo_step_23 (kk := ?_)
      refine gx_iconst (v := nI 4) C dd_Mo_step_24 (kk := ?_)
      refine gx_icmp_ne C 38 dd_Mo_step_25 (fun h25 => absurd rfl h25) (fun h25 => ?_)
      refine gx_aload_n C 0 dd_Mo_step_28 (kk := ?_)
      refine mo_get C fd_Mo_44 dd_Mo_step_29 (kk := ?_)
      refine gx_iload_n C 1 dd_Mo_step_32 (kk := ?_)
      refine mo_l55 C dd_Mo_step_33 (by omega) (kk := ?_)
      refine gx_topl _ (hP.2 j x hx).2.2.2.2 ?_
      refine gx_l2i C dd_Mo_step_34 (w := nI x.2) (hv := lN_i _) (kk := ?_)
      refine gx_goto C 48 dd_Mo_step_35 (kk := ?_)
      refine gx_iret C dd_Mo_step_48 ?_
      have hpt : o_pt σ.2.1 (nI j) (nI 4) = nI x.2 := by
        unfold o_pt
        simp only [hk, hx, ap_4]
      exact ⟨F, L, S, rfl, hr, by rw [o_step, hpt]⟩
set_option maxRecDepth 100000 in
set_option maxHeartbeats 4000000 in
theorem ct_Mo_part (l : Launch) (D : va_G) (dA : Nat → ClassId) (ad : Nat → Nat) (h : Nat → va_E) (F : mo_F) (L : mo_L) (S : Nat → Int32) {σ : sg} (hr : rs F L S σ) (hσ : sg_ok σ) (s k what : Int32) : gx_Ct l D dA yy_Mo_part cc_Mo_part 5 (some .int) 1 0 0 [.ref (ad 43), .int s, .int k, .int what] (gx_w ad (mo_h dA ad h F L S)) (fun v w => ∃ F2 L2 S2, w = (gx_w ad (mo_h dA ad h F2 L2 S2)) ∧ rs F2 L2 S2 (o_part σ s k what).2 ∧ v = some (.int (o_part σ s k what).1)) := by
  refine gx_of (by decide) (Nat.le_of_ble_eq_true rfl) (fun K C _ _ => ?_)
  have hM := hr.1
  have hP := hr.2.1
  have hX := hr.2.2
  refine gx_iload_n C 1 dd_Mo_part_0 (kk := ?_)
  refine gx_callS C (ct_Mo_isSlot (gx_l K) D dA _ s) me_Mo_isSlot ml_Mo_81 ms_Mo_isSlot dd_Mo_part_1 (kk := fun v w hq => ?_)
  obtain ⟨rfl, rfl⟩ := hq
  rcases hi : ix 4 s with _ | i
  · refine gx_if_eq C 30 dd_Mo_part_4 (fun h4 => ?_) (fun h4 => absurd rfl h4)
    refine gx_iconst (v := -1) C dd_Mo_part_30 (kk := ?_)
    refine gx_iret C dd_Mo_part_31 ?_
    have hsp : o_part σ s k what = (-1, σ) := by
      unfold o_part
      simp only [hi]
    rw [hsp]
    exact ⟨F, L, S, rfl, hr, rfl⟩
  · obtain ⟨hi4, rfl⟩ := ix_of (by decide) hi
    refine gx_if_eq C 30 dd_Mo_part_4 (fun h4 => absurd (show true = false from fb_0.mp h4) (by decide)) (fun h4 => ?_)
    have hok := hσ.1 i hi4
    have hn16 := hok.1.1
    have hl64 := hok.1.2.1
    rcases hk : ix (am_ar (σ.1 i)).length k with _ | j
    · refine gx_iload_n C 2 dd_Mo_part_7 (kk := ?_)
      refine gx_if_lt C 30 dd_Mo_part_8 (fun h8 => ?_) (fun h8 => ?_)
      · refine gx_iconst (v := -1) C dd_Mo_part_30 (kk := ?_)
        refine gx_iret C dd_Mo_part_31 ?_
        have hpt : o_pt (am_ar (σ.1 i)) k what = -1 := by
          unfold o_pt
          simp only [hk]
        have hsp : o_part σ (nI i) k what = (-1, σ) := by
          unfold o_part
          simp only [hi, hpt]
        rw [hsp]
        exact ⟨F, L, S, rfl, hr, rfl⟩
      · refine gx_iload_n C 2 dd_Mo_part_11 (kk := ?_)
        refine gx_aload_n C 0 dd_Mo_part_12 (kk := ?_)
        refine mo_get C fd_Mo_23 dd_Mo_part_13 (kk := ?_)
        refine gx_iload_n C 1 dd_Mo_part_16 (kk := ?_)
        refine mo_l48 C dd_Mo_part_17 (by omega) (kk := ?_)
        refine gx_topi _ (hM i hi4).2.2.2.1 ?_
        refine gx_icmp_ge C 30 dd_Mo_part_18 (fun h18 => ?_) (fun h18 => absurd (Int32.not_le.mp h18) (ix_nlt hk h8))
        refine gx_iconst (v := -1) C dd_Mo_part_30 (kk := ?_)
        refine gx_iret C dd_Mo_part_31 ?_
        have hpt : o_pt (am_ar (σ.1 i)) k what = -1 := by
          unfold o_pt
          simp only [hk]
        have hsp : o_part σ (nI i) k what = (-1, σ) := by
          unfold o_part
          simp only [hi, hpt]
        rw [hsp]
        exact ⟨F, L, S, rfl, hr, rfl⟩
    · obtain ⟨hj, rfl⟩ := ix_of (by omega) hk
      obtain ⟨x, hx⟩ : ∃ x, (am_ar (σ.1 i))[j]? = some x := ⟨_, List.getElem?_eq_getElem hj⟩
      refine gx_iload_n C 2 dd_Mo_part_7 (kk := ?_)
      refine gx_if_lt C 30 dd_Mo_part_8 (fun h8 => absurd h8 (nI_pos (by omega))) (fun h8 => ?_)
      refine gx_iload_n C 2 dd_Mo_part_11 (kk := ?_)
      refine gx_aload_n C 0 dd_Mo_part_12 (kk := ?_)
      refine mo_get C fd_Mo_23 dd_Mo_part_13 (kk := ?_)
      refine gx_iload_n C 1 dd_Mo_part_16 (kk := ?_)
      refine mo_l48 C dd_Mo_part_17 (by omega) (kk := ?_)
      refine gx_topi _ (hM i hi4).2.2.2.1 ?_
      refine gx_icmp_ge C 30 dd_Mo_part_18 (fun h18 => absurd h18 (nI_ge (by omega) (by omega))) (fun h18 => ?_)
      rcases ix_5 what with hwt | rfl | rfl | rfl | rfl | rfl
      · refine gx_iload_n C 3 dd_Mo_part_21 (kk := ?_)
        refine gx_if_lt C 30 dd_Mo_part_22 (fun h22 => ?_) (fun h22 => ?_)
        · refine gx_iconst (v := -1) C dd_Mo_part_30 (kk := ?_)
          refine gx_iret C dd_Mo_part_31 ?_
          have hpt : o_pt (am_ar (σ.1 i)) (nI j) what = -1 := by
            unfold o_pt
            simp only [hk, hx, ap_N hwt]
          have hsp : o_part σ (nI i) (nI j) what = (-1, σ) := by
            unfold o_part
            simp only [hi, hpt]
          rw [hsp]
          exact ⟨F, L, S, rfl, hr, rfl⟩
        · refine gx_iload_n C 3 dd_Mo_part_25 (kk := ?_)
          refine gx_iconst (v := nI 4) C dd_Mo_part_26 (kk := ?_)
          refine gx_icmp_le C 32 dd_Mo_part_27 (fun h27 => absurd h27 (ix_nle (by decide) hwt h22)) (fun h27 => ?_)
          refine gx_iconst (v := -1) C dd_Mo_part_30 (kk := ?_)
          refine gx_iret C dd_Mo_part_31 ?_
          have hpt : o_pt (am_ar (σ.1 i)) (nI j) what = -1 := by
            unfold o_pt
            simp only [hk, hx, ap_N hwt]
          have hsp : o_part σ (nI i) (nI j) what = (-1, σ) := by
            unfold o_part
            simp only [hi, hpt]
          rw [hsp]
          exact ⟨F, L, S, rfl, hr, rfl⟩
      · refine gx_iload_n C 3 dd_Mo_part_21 (kk := ?_)
        refine gx_if_lt C 30 dd_Mo_part_22 (fun h22 => absurd h22 (by decide)) (fun h22 => ?_)
        refine gx_iload_n C 3 dd_Mo_part_25 (kk := ?_)
        refine gx_iconst (v := nI 4) C dd_Mo_part_26 (kk := ?_)
        refine gx_icmp_le C 32 dd_Mo_part_27 (fun h27 => ?_) (fun h27 => absurd (by decide) h27)
        refine gx_bipush (v := nI 65) C dd_Mo_part_32 (kk := ?_)
        refine gx_iload_n C 1 dd_Mo_part_34 (kk := ?_)
        refine gx_imul C dd_Mo_part_35 (kk := ?_)
        refine gx_topi _ (pk_mul _ _) ?_
        refine gx_iload_n C 2 dd_Mo_part_36 (kk := ?_)
        refine gx_iadd C dd_Mo_part_37 (kk := ?_)
        refine gx_topi _ (nI_add _ _) ?_
        refine gx_istore C _ dd_Mo_part_38 (kk := ?_)
        refine gx_iload_n C 4 dd_Mo_part_40 (kk := ?_)
        refine gx_if_ne C 54 dd_Mo_part_41 (fun h41 => absurd rfl h41) (fun h41 => ?_)
        refine gx_aload_n C 1 dd_Mo_part_44 (kk := ?_)
        refine mo_get C fd_Mo_26 dd_Mo_part_45 (kk := ?_)
        refine gx_iload C 0 dd_Mo_part_48 (kk := ?_)
        refine mo_l49 C dd_Mo_part_50 (by omega) (kk := ?_)
        refine gx_topi _ ((hM i hi4).2.2.2.2.1 j x hx).1 ?_
        refine gx_goto C 107 dd_Mo_part_51 (kk := ?_)
        refine gx_iret C dd_Mo_part_107 ?_
        have hpt : o_pt (am_ar (σ.1 i)) (nI j) (nI 0) = nI (x.1 / 1024) := by
          unfold o_pt
          simp only [hk, hx, ap_0]
        have hsp : o_part σ (nI i) (nI j) (nI 0) = (nI (x.1 / 1024), σ) := by
          unfold o_part
          simp only [hi, hpt]
        rw [hsp]
        exact ⟨F, L, S, rfl, hr, rfl⟩
      · refine gx_iload_n C 3 dd_Mo_part_21 (kk := ?_)
        refine gx_if_lt C 30 dd_Mo_part_22 (fun h22 => absurd h22 (by decide)) (fun h22 => ?_)
        refine gx_iload_n C 3 dd_Mo_part_25 (kk := ?_)
        refine gx_iconst (v := nI 4) C dd_Mo_part_26 (kk := ?_)
        refine gx_icmp_le C 32 dd_Mo_part_27 (fun h27 => ?_) (fun h27 => absurd (by decide) h27)
        refine gx_bipush (v := nI 65) C dd_Mo_part_32 (kk := ?_)
        refine gx_iload_n C 1 dd_Mo_part_34 (kk := ?_)
        refine gx_imul C dd_Mo_part_35 (kk := ?_)
        refine gx_topi _ (pk_mul _ _) ?_
        refine gx_iload_n C 2 dd_Mo_part_36 (kk := ?_)
        refine gx_iadd C dd_Mo_part_37 (kk := ?_)
        refine gx_topi _ (nI_add _ _) ?_
        refine gx_istore C _ dd_Mo_part_38 (kk := ?_)
        refine gx_iload_n C 4 dd_Mo_part_40 (kk := ?_)
        refine gx_if_ne C 54 dd_Mo_part_41 (fun h41 => ?_) (fun h41 => absurd h41 (by decide))
        refine gx_iload_n C 4 dd_Mo_part_54 (kk := ?_)
        refine gx_iconst (v := nI 1) C dd_Mo_part_55 (kk := ?_)
        refine gx_icmp_ne C 69 dd_Mo_part_56 (fun h56 => absurd rfl h56) (fun h56 => ?_)
        refine gx_aload_n C 1 dd_Mo_part_59 (kk := ?_)
        refine mo_get C fd_Mo_29 dd_Mo_part_60 (kk := ?_)
        refine gx_iload C 0 dd_Mo_part_63 (kk := ?_)
        refine mo_l50 C dd_Mo_part_65 (by omega) (kk := ?_)
        refine gx_topi _ ((hM i hi4).2.2.2.2.1 j x hx).2.1 ?_
        refine gx_goto C 107 dd_Mo_part_66 (kk := ?_)
        refine gx_iret C dd_Mo_part_107 ?_
        have hpt : o_pt (am_ar (σ.1 i)) (nI j) (nI 1) = nI (x.1 % 16) := by
          unfold o_pt
          simp only [hk, hx, ap_1]
        have hsp : o_part σ (nI i) (nI j) (nI 1) = (nI (x.1 % 16), σ) := by
          unfold o_part
          simp only [hi, hpt]
        rw [hsp]
        exact ⟨F, L, S, rfl, hr, rfl⟩
      · refine gx_iload_n C 3 dd_Mo_part_21 (kk := ?_)
        refine gx_if_lt C 30 dd_Mo_part_22 (fun h22 => absurd h22 (by decide)) (fun h22 => ?_)
        refine gx_iload_n C 3 dd_Mo_part_25 (kk := ?_)
        refine gx_iconst (v := nI 4) C dd_Mo_part_26 (kk := ?_)
        refine gx_icmp_le C 32 dd_Mo_part_27 (fun h27 => ?_) (fun h27 => absurd (by decide) h27)
        refine gx_bipush (v := nI 65) C dd_Mo_part_32 (kk := ?_)
        refine gx_iload_n C 1 dd_Mo_part_34 (kk := ?_)
        refine gx_imul C dd_Mo_part_35 (kk := ?_)
        refine gx_topi _ (pk_mul _ _) ?_
        refine gx_iload_n C 2 dd_Mo_part_36 (kk := ?_)
        refine gx_iadd C dd_Mo_part_37 (kk := ?_)
        refine gx_topi _ (nI_add _ _) ?_
        refine gx_istore C _ dd_Mo_part_38 (kk := ?_)
        refine gx_iload_n C 4 dd_Mo_part_40 (kk := ?_)
        refine gx_if_ne C 54 dd_Mo_part_41 (fun h41 => ?_) (fun h41 => absurd h41 (by decide))
        refine gx_iload_n C 4 dd_Mo_part_54 (kk := ?_)
        refine gx_iconst (v := nI 1) C dd_Mo_part_55 (kk := ?_)
        refine gx_icmp_ne C 69 dd_Mo_part_56 (fun h56 => ?_) (fun h56 => absurd h56 (by decide))
        refine gx_iload_n C 4 dd_Mo_part_69 (kk := ?_)
        refine gx_iconst (v := nI 2) C dd_Mo_part_70 (kk := ?_)
        refine gx_icmp_ne C 84 dd_Mo_part_71 (fun h71 => absurd rfl h71) (fun h71 => ?_)
        refine gx_aload_n C 1 dd_Mo_part_74 (kk := ?_)
        refine mo_get C fd_Mo_32 dd_Mo_part_75 (kk := ?_)
        refine gx_iload C 0 dd_Mo_part_78 (kk := ?_)
        refine mo_l51 C dd_Mo_part_80 (by omega) (kk := ?_)
        refine gx_topi _ ((hM i hi4).2.2.2.2.1 j x hx).2.2.1 ?_
        refine gx_goto C 107 dd_Mo_part_81 (kk := ?_)
        refine gx_iret C dd_Mo_part_107 ?_
        have hpt : o_pt (am_ar (σ.1 i)) (nI j) (nI 2) = nI (x.1 / 128 % 8) := by
          unfold o_pt
          simp only [hk, hx, ap_2]
        have hsp : o_part σ (nI i) (nI j) (nI 2) = (nI (x.1 / 128 % 8), σ) := by
          unfold o_part
          simp only [hi, hpt]
        rw [hsp]
        exact ⟨F, L, S, rfl, hr, rfl⟩
      · refine gx_iload_n C 3 dd_Mo_part_21 (kk := ?_)
        refine gx_if_lt C 30 dd_Mo_part_22 (fun h22 => absurd h22 (by decide)) (fun h22 => ?_)
        refine gx_iload_n C 3 dd_Mo_part_25 (kk := ?_)
        refine gx_iconst (v := nI 4) C dd_Mo_part_26 (kk := ?_)
        refine gx_icmp_le C 32 dd_Mo_part_27 (fun h27 => ?_) (fun h27 => absurd (by decide) h27)
        refine gx_bipush (v := nI 65) C dd_Mo_part_32 (kk := ?_)
        refine gx_iload_n C 1 dd_Mo_part_34 (kk := ?_)
        refine gx_imul C dd_Mo_part_35 (kk := ?_)
        refine gx_topi _ (pk_mul _ _) ?_
        refine gx_iload_n C 2 dd_Mo_part_36 (kk := ?_)
        refine gx_iadd C dd_Mo_part_37 (kk := ?_)
        refine gx_topi _ (nI_add _ _) ?_
        refine gx_istore C _ dd_Mo_part_38 (kk := ?_)
        refine gx_iload_n C 4 dd_Mo_part_40 (kk := ?_)
        refine gx_if_ne C 54 dd_Mo_part_41 (fun h41 => ?_) (fun h41 => absurd h41 (by decide))
        refine gx_iload_n C 4 dd_Mo_part_54 (kk := ?_)
        refine gx_iconst (v := nI 1) C dd_Mo_part_55 (kk := ?_)
        refine gx_icmp_ne C 69 dd_Mo_part_56 (fun h56 => ?_) (fun h56 => absurd h56 (by decide))
        refine gx_iload_n C 4 dd_Mo_part_69 (kk := ?_)
        refine gx_iconst (v := nI 2) C dd_Mo_part_70 (kk := ?_)
        refine gx_icmp_ne C 84 dd_Mo_part_71 (fun h71 => ?_) (fun h71 => absurd h71 (by decide))
        refine gx_iload_n C 4 dd_Mo_part_84 (kk := ?_)
        refine gx_iconst (v := nI 3) C dd_Mo_part_85 (kk := ?_)
        refine gx_icmp_ne C 99 dd_Mo_part_86 (fun h86 => absurd rfl h86) (fun h86 => ?_)
        refine gx_aload_n C 1 dd_Mo_part_89 (kk := ?_)
        refine mo_get C fd_Mo_35 dd_Mo_part_90 (kk := ?_)
        refine gx_iload C 0 dd_Mo_part_93 (kk := ?_)
        refine mo_l52 C dd_Mo_part_95 (by omega) (kk := ?_)
        refine gx_topi _ ((hM i hi4).2.2.2.2.1 j x hx).2.2.2.1 ?_
        refine gx_goto C 107 dd_Mo_part_96 (kk := ?_)
        refine gx_iret C dd_Mo_part_107 ?_
        have hpt : o_pt (am_ar (σ.1 i)) (nI j) (nI 3) = nI (x.1 / 16 % 8) := by
          unfold o_pt
          simp only [hk, hx, ap_3]
        have hsp : o_part σ (nI i) (nI j) (nI 3) = (nI (x.1 / 16 % 8), σ) := by
          unfold o_part
          simp only [hi, hpt]
        rw [hsp]
        exact ⟨F, L, S, rfl, hr, rfl⟩
      · refine gx_iload_n C 3 dd_Mo_part_21 (kk := ?_)
        refine gx_if_lt C 30 dd_Mo_part_22 (fun h22 => absurd h22 (by decide)) (fun h22 => ?_)
        refine gx_iload_n C 3 dd_Mo_part_25 (kk := ?_)
        refine gx_iconst (v := nI 4) C dd_Mo_part_26 (kk := ?_)
        refine gx_icmp_le C 32 dd_Mo_part_27 (fun h27 => ?_) (fun h27 => absurd (by decide) h27)
        refine gx_bipush (v := nI 65) C dd_Mo_part_32 (kk := ?_)
        refine gx_iload_n C 1 dd_Mo_part_34 (kk := ?_)
        refine gx_imul C dd_Mo_part_35 (kk := ?_)
        refine gx_topi _ (pk_mul _ _) ?_
        refine gx_iload_n C 2 dd_Mo_part_36 (kk := ?_)
        refine gx_iadd C dd_Mo_part_37 (kk := ?_)
        refine gx_topi _ (nI_add _ _) ?_
        refine gx_istore C _ dd_Mo_part_38 (kk := ?_)
        refine gx_iload_n C 4 dd_Mo_part_40 (kk := ?_)
        refine gx_if_ne C 54 dd_Mo_part_41 (fun h41 => ?_) (fun h41 => absurd h41 (by decide))
        refine gx_iload_n C 4 dd_Mo_part_54 (kk := ?_)
        refine gx_iconst (v := nI 1) C dd_Mo_part_55 (kk := ?_)
        refine gx_icmp_ne C 69 dd_Mo_part_56 (fun h56 => ?_) (fun h56 => absurd h56 (by decide))
        refine gx_iload_n C 4 dd_Mo_part_69 (kk := ?_)
        refine gx_iconst (v := nI 2) C dd_Mo_part_70 (kk := ?_)
        refine gx_icmp_ne C 84 dd_Mo_part_71 (fun h71 => ?_) (fun h71 => absurd h71 (by decide))
        refine gx_iload_n C 4 dd_Mo_part_84 (kk := ?_)
        refine gx_iconst (v := nI 3) C dd_Mo_part_85 (kk := ?_)
        refine gx_icmp_ne C 99 dd_Mo_part_86 (fun h86 => ?_) (fun h86 => absurd h86 (by decide))
        refine gx_aload_n C 1 dd_Mo_part_99 (kk := ?_)
        refine mo_get C fd_Mo_38 dd_Mo_part_100 (kk := ?_)
        refine gx_iload C 0 dd_Mo_part_103 (kk := ?_)
        refine mo_l53 C dd_Mo_part_105 (by omega) (kk := ?_)
        refine gx_topl _ ((hM i hi4).2.2.2.2.1 j x hx).2.2.2.2 ?_
        refine gx_l2i C dd_Mo_part_106 (w := nI x.2) (hv := lN_i _) (kk := ?_)
        refine gx_iret C dd_Mo_part_107 ?_
        have hpt : o_pt (am_ar (σ.1 i)) (nI j) (nI 4) = nI x.2 := by
          unfold o_pt
          simp only [hk, hx, ap_4]
        have hsp : o_part σ (nI i) (nI j) (nI 4) = (nI x.2, σ) := by
          unfold o_part
          simp only [hi, hpt]
        rw [hsp]
        exact ⟨F, L, S, rfl, hr, rfl⟩
theorem am_e_0 {o : Option Nat} (h : ∀ w, o = some w → w < 2 ^ 63) : ¬ am_e o < lN 0 ↔ o ≠ none := by
  cases o with
  | none => exact ⟨fun e => absurd (show am_e none < lN 0 by decide) e, fun e => absurd rfl e⟩
  | some w => exact ⟨fun _ => by simp, fun _ => by
      show ¬ lN w < lN 0
      rw [pk_lLT (h w rfl) (by decide)]
      omega⟩
set_option maxRecDepth 100000 in
set_option maxHeartbeats 4000000 in
theorem ct_Mo_count (l : Launch) (D : va_G) (dA : Nat → ClassId) (ad : Nat → Nat) (h : Nat → va_E) (F : mo_F) (L : mo_L) (S : Nat → Int32) {σ : sg} (hr : rs F L S σ) (hσ : sg_ok σ) (s what : Int32) : gx_Ct l D dA yy_Mo_count cc_Mo_count 5 (some .int) 1 0 0 [.ref (ad 43), .int s, .int what] (gx_w ad (mo_h dA ad h F L S)) (fun v w => ∃ F2 L2 S2, w = (gx_w ad (mo_h dA ad h F2 L2 S2)) ∧ rs F2 L2 S2 (o_count σ s what).2 ∧ v = some (.int (o_count σ s what).1)) := by
  refine gx_of (by decide) (Nat.le_of_ble_eq_true rfl) (fun K C _ _ => ?_)
  have hM := hr.1
  have hP := hr.2.1
  have hX := hr.2.2
  refine gx_iload_n C 1 dd_Mo_count_0 (kk := ?_)
  refine gx_callS C (ct_Mo_isSlot (gx_l K) D dA _ s) me_Mo_isSlot ml_Mo_81 ms_Mo_isSlot dd_Mo_count_1 (kk := fun v w hq => ?_)
  obtain ⟨rfl, rfl⟩ := hq
  rcases hi : ix 4 s with _ | i
  · refine gx_if_eq C 16 dd_Mo_count_4 (fun h4 => ?_) (fun h4 => absurd rfl h4)
    refine gx_iconst (v := -1) C dd_Mo_count_16 (kk := ?_)
    refine gx_iret C dd_Mo_count_17 ?_
    have hsp : o_count σ s what = (-1, σ) := by
      unfold o_count
      simp only [hi]
    rw [hsp]
    exact ⟨F, L, S, rfl, hr, rfl⟩
  · obtain ⟨hi4, rfl⟩ := ix_of (by decide) hi
    refine gx_if_eq C 16 dd_Mo_count_4 (fun h4 => absurd (show true = false from fb_0.mp h4) (by decide)) (fun h4 => ?_)
    have hok := hσ.1 i hi4
    have hn16 := hok.1.1
    have hl64 := hok.1.2.1
    rcases ix_5 what with hwn | hwh
    · refine gx_iload_n C 2 dd_Mo_count_7 (kk := ?_)
      refine gx_if_lt C 16 dd_Mo_count_8 (fun h8 => ?_) (fun h8 => ?_)
      · refine gx_iconst (v := -1) C dd_Mo_count_16 (kk := ?_)
        refine gx_iret C dd_Mo_count_17 ?_
        have hct : o_ct (σ.1 i) what = -1 := by
          unfold o_ct
          simp only [hwn]
        have hsp : o_count σ (nI i) what = (-1, σ) := by
          unfold o_count
          simp only [hi, hct]
        rw [hsp]
        exact ⟨F, L, S, rfl, hr, rfl⟩
      · refine gx_iload_n C 2 dd_Mo_count_11 (kk := ?_)
        refine gx_iconst (v := nI 4) C dd_Mo_count_12 (kk := ?_)
        refine gx_icmp_le C 18 dd_Mo_count_13 (fun h13 => absurd h13 (ix_nle (by decide) hwn h8)) (fun h13 => ?_)
        refine gx_iconst (v := -1) C dd_Mo_count_16 (kk := ?_)
        refine gx_iret C dd_Mo_count_17 ?_
        have hct : o_ct (σ.1 i) what = -1 := by
          unfold o_ct
          simp only [hwn]
        have hsp : o_count σ (nI i) what = (-1, σ) := by
          unfold o_count
          simp only [hi, hct]
        rw [hsp]
        exact ⟨F, L, S, rfl, hr, rfl⟩
    · refine gx_iload_n C 2 dd_Mo_count_7 (kk := ?_)
      refine gx_if_lt C 16 dd_Mo_count_8 (fun h8 => absurd h8 (by rcases hwh with rfl | rfl | rfl | rfl | rfl <;> decide)) (fun h8 => ?_)
      refine gx_iload_n C 2 dd_Mo_count_11 (kk := ?_)
      refine gx_iconst (v := nI 4) C dd_Mo_count_12 (kk := ?_)
      refine gx_icmp_le C 18 dd_Mo_count_13 (fun h13 => ?_) (fun h13 => absurd (by rcases hwh with rfl | rfl | rfl | rfl | rfl <;> decide) h13)
      refine gx_iconst (v := nI 0) C dd_Mo_count_18 (kk := ?_)
      refine gx_istore_n C _ dd_Mo_count_19 (kk := ?_)
      refine gx_iconst (v := nI 0) C dd_Mo_count_20 (kk := ?_)
      refine gx_istore C _ dd_Mo_count_21 (kk := ?_)
      have loop : ∀ m j, j + m = am_n (σ.1 i) → gx_G K D 5 0 0 23 [(4, .int (nI j)), (3, .int (nI (am_ce (am_en (σ.1 i)) j))), (0, .ref (ad 43)), (1, .int (nI i)), (2, .int what)] [] (gx_w ad (mo_h dA ad h F L S)) (gx_Z K D dA 0 0 (fun v w => ∃ F2 L2 S2, w = (gx_w ad (mo_h dA ad h F2 L2 S2)) ∧ rs F2 L2 S2 (o_count σ (nI i) what).2 ∧ v = some (.int (o_count σ (nI i) what).1))) := by
        intro m
        induction m with
        | zero =>
          intro j hj
          refine gx_iload C 0 dd_Mo_count_23 (kk := ?_)
          refine gx_aload_n C 2 dd_Mo_count_25 (kk := ?_)
          refine mo_get C fd_Mo_7 dd_Mo_count_26 (kk := ?_)
          refine gx_iload_n C 3 dd_Mo_count_29 (kk := ?_)
          refine mo_l44 C dd_Mo_count_30 (by omega) (kk := ?_)
          refine gx_topi _ (hM i hi4).1 ?_
          refine gx_icmp_ge C 65 dd_Mo_count_31 (fun h31 => ?_) (fun h31 => absurd (nI_le (a := am_n (σ.1 i)) (b := j) (by omega) (by omega)) h31)
          obtain rfl : j = am_n (σ.1 i) := by omega
          rcases hwh with rfl | rfl | rfl | rfl | rfl
          · have hwt : ix 5 (nI 0) = some 0 := ix_some (by decide) (by decide)
            refine gx_iload_n C 4 dd_Mo_count_65 (kk := ?_)
            refine gx_if_ne C 78 dd_Mo_count_66 (fun h66 => absurd rfl h66) (fun h66 => ?_)
            refine gx_aload_n C 2 dd_Mo_count_69 (kk := ?_)
            refine mo_get C fd_Mo_7 dd_Mo_count_70 (kk := ?_)
            refine gx_iload_n C 3 dd_Mo_count_73 (kk := ?_)
            refine mo_l44 C dd_Mo_count_74 (by omega) (kk := ?_)
            refine gx_topi _ (hM i hi4).1 ?_
            refine gx_goto C 135 dd_Mo_count_75 (kk := ?_)
            refine gx_iret C dd_Mo_count_135 ?_
            have hct : o_ct (σ.1 i) (nI 0) = nI (am_n (σ.1 i)) := by
              unfold o_ct
              simp only [hwt]
            have hsp : o_count σ (nI i) (nI 0) = (nI (am_n (σ.1 i)), σ) := by
              unfold o_count
              simp only [hi, hct]
            rw [hsp]
            exact ⟨F, L, S, rfl, hr, rfl⟩
          · have hwt : ix 5 (nI 1) = some 1 := ix_some (by decide) (by decide)
            refine gx_iload_n C 4 dd_Mo_count_65 (kk := ?_)
            refine gx_if_ne C 78 dd_Mo_count_66 (fun h66 => ?_) (fun h66 => absurd h66 (by decide))
            refine gx_iload_n C 4 dd_Mo_count_78 (kk := ?_)
            refine gx_iconst (v := nI 1) C dd_Mo_count_79 (kk := ?_)
            refine gx_icmp_ne C 92 dd_Mo_count_80 (fun h80 => absurd rfl h80) (fun h80 => ?_)
            refine gx_aload_n C 2 dd_Mo_count_83 (kk := ?_)
            refine mo_get C fd_Mo_23 dd_Mo_count_84 (kk := ?_)
            refine gx_iload_n C 3 dd_Mo_count_87 (kk := ?_)
            refine mo_l48 C dd_Mo_count_88 (by omega) (kk := ?_)
            refine gx_topi _ (hM i hi4).2.2.2.1 ?_
            refine gx_goto C 135 dd_Mo_count_89 (kk := ?_)
            refine gx_iret C dd_Mo_count_135 ?_
            have hct : o_ct (σ.1 i) (nI 1) = nI (am_ar (σ.1 i)).length := by
              unfold o_ct
              simp only [hwt]
            have hsp : o_count σ (nI i) (nI 1) = (nI (am_ar (σ.1 i)).length, σ) := by
              unfold o_count
              simp only [hi, hct]
            rw [hsp]
            exact ⟨F, L, S, rfl, hr, rfl⟩
          · have hwt : ix 5 (nI 2) = some 2 := ix_some (by decide) (by decide)
            refine gx_iload_n C 4 dd_Mo_count_65 (kk := ?_)
            refine gx_if_ne C 78 dd_Mo_count_66 (fun h66 => ?_) (fun h66 => absurd h66 (by decide))
            refine gx_iload_n C 4 dd_Mo_count_78 (kk := ?_)
            refine gx_iconst (v := nI 1) C dd_Mo_count_79 (kk := ?_)
            refine gx_icmp_ne C 92 dd_Mo_count_80 (fun h80 => ?_) (fun h80 => absurd h80 (by decide))
            refine gx_iload_n C 4 dd_Mo_count_92 (kk := ?_)
            refine gx_iconst (v := nI 2) C dd_Mo_count_93 (kk := ?_)
            refine gx_icmp_ne C 101 dd_Mo_count_94 (fun h94 => absurd rfl h94) (fun h94 => ?_)
            refine gx_iload_n C 1 dd_Mo_count_97 (kk := ?_)
            refine gx_goto C 135 dd_Mo_count_98 (kk := ?_)
            refine gx_iret C dd_Mo_count_135 ?_
            have hct : o_ct (σ.1 i) (nI 2) = nI (am_ce (am_en (σ.1 i)) (am_n (σ.1 i))) := by
              unfold o_ct
              simp only [hwt]
            have hsp : o_count σ (nI i) (nI 2) = (nI (am_ce (am_en (σ.1 i)) (am_n (σ.1 i))), σ) := by
              unfold o_count
              simp only [hi, hct]
            rw [hsp]
            exact ⟨F, L, S, rfl, hr, rfl⟩
          · have hwt : ix 5 (nI 3) = some 3 := ix_some (by decide) (by decide)
            refine gx_iload_n C 4 dd_Mo_count_65 (kk := ?_)
            refine gx_if_ne C 78 dd_Mo_count_66 (fun h66 => ?_) (fun h66 => absurd h66 (by decide))
            refine gx_iload_n C 4 dd_Mo_count_78 (kk := ?_)
            refine gx_iconst (v := nI 1) C dd_Mo_count_79 (kk := ?_)
            refine gx_icmp_ne C 92 dd_Mo_count_80 (fun h80 => ?_) (fun h80 => absurd h80 (by decide))
            refine gx_iload_n C 4 dd_Mo_count_92 (kk := ?_)
            refine gx_iconst (v := nI 2) C dd_Mo_count_93 (kk := ?_)
            refine gx_icmp_ne C 101 dd_Mo_count_94 (fun h94 => ?_) (fun h94 => absurd h94 (by decide))
            refine gx_iload_n C 4 dd_Mo_count_101 (kk := ?_)
            refine gx_iconst (v := nI 3) C dd_Mo_count_102 (kk := ?_)
            refine gx_icmp_ne C 115 dd_Mo_count_103 (fun h103 => absurd rfl h103) (fun h103 => ?_)
            rcases hst : am_st (σ.1 i) with _ | x
            · have hsq := (hM i hi4).2.1
              rw [hst] at hsq
              refine gx_aload_n C 2 dd_Mo_count_106 (kk := ?_)
              refine mo_get C fd_Mo_13 dd_Mo_count_107 (kk := ?_)
              refine gx_iload_n C 3 dd_Mo_count_110 (kk := ?_)
              refine mo_l45 C dd_Mo_count_111 (by omega) (kk := ?_)
              refine gx_topi _ hsq.1 ?_
              refine gx_goto C 135 dd_Mo_count_112 (kk := ?_)
              refine gx_iret C dd_Mo_count_135 ?_
              have hct : o_ct (σ.1 i) (nI 3) = -1 := by
                unfold o_ct
                simp only [hwt, hst]
                rfl
              have hsp : o_count σ (nI i) (nI 3) = (-1, σ) := by
                unfold o_count
                simp only [hi, hct]
              rw [hsp]
              exact ⟨F, L, S, rfl, hr, rfl⟩
            · have hsq := (hM i hi4).2.1
              rw [hst] at hsq
              have hxb := hok.1.2.2.2.2 x hst
              refine gx_aload_n C 2 dd_Mo_count_106 (kk := ?_)
              refine mo_get C fd_Mo_13 dd_Mo_count_107 (kk := ?_)
              refine gx_iload_n C 3 dd_Mo_count_110 (kk := ?_)
              refine mo_l45 C dd_Mo_count_111 (by omega) (kk := ?_)
              refine gx_topi _ hsq.1 ?_
              refine gx_goto C 135 dd_Mo_count_112 (kk := ?_)
              refine gx_iret C dd_Mo_count_135 ?_
              have hct : o_ct (σ.1 i) (nI 3) = nI x.1 := by
                unfold o_ct
                simp only [hwt, hst]
                rfl
              have hsp : o_count σ (nI i) (nI 3) = (nI x.1, σ) := by
                unfold o_count
                simp only [hi, hct]
              rw [hsp]
              exact ⟨F, L, S, rfl, hr, rfl⟩
          · have hwt : ix 5 (nI 4) = some 4 := ix_some (by decide) (by decide)
            refine gx_iload_n C 4 dd_Mo_count_65 (kk := ?_)
            refine gx_if_ne C 78 dd_Mo_count_66 (fun h66 => ?_) (fun h66 => absurd h66 (by decide))
            refine gx_iload_n C 4 dd_Mo_count_78 (kk := ?_)
            refine gx_iconst (v := nI 1) C dd_Mo_count_79 (kk := ?_)
            refine gx_icmp_ne C 92 dd_Mo_count_80 (fun h80 => ?_) (fun h80 => absurd h80 (by decide))
            refine gx_iload_n C 4 dd_Mo_count_92 (kk := ?_)
            refine gx_iconst (v := nI 2) C dd_Mo_count_93 (kk := ?_)
            refine gx_icmp_ne C 101 dd_Mo_count_94 (fun h94 => ?_) (fun h94 => absurd h94 (by decide))
            refine gx_iload_n C 4 dd_Mo_count_101 (kk := ?_)
            refine gx_iconst (v := nI 3) C dd_Mo_count_102 (kk := ?_)
            refine gx_icmp_ne C 115 dd_Mo_count_103 (fun h103 => ?_) (fun h103 => absurd h103 (by decide))
            rcases hst : am_st (σ.1 i) with _ | x
            · have hsq := (hM i hi4).2.1
              rw [hst] at hsq
              refine gx_aload_n C 2 dd_Mo_count_115 (kk := ?_)
              refine mo_get C fd_Mo_13 dd_Mo_count_116 (kk := ?_)
              refine gx_iload_n C 3 dd_Mo_count_119 (kk := ?_)
              refine mo_l45 C dd_Mo_count_120 (by omega) (kk := ?_)
              refine gx_topi _ hsq.1 ?_
              refine gx_if_ge C 128 dd_Mo_count_121 (fun h121 => absurd h121 (by decide)) (fun h121 => ?_)
              refine gx_iconst (v := -1) C dd_Mo_count_124 (kk := ?_)
              refine gx_goto C 135 dd_Mo_count_125 (kk := ?_)
              refine gx_iret C dd_Mo_count_135 ?_
              have hct : o_ct (σ.1 i) (nI 4) = -1 := by
                unfold o_ct
                simp only [hwt, hst]
                rfl
              have hsp : o_count σ (nI i) (nI 4) = (-1, σ) := by
                unfold o_count
                simp only [hi, hct]
              rw [hsp]
              exact ⟨F, L, S, rfl, hr, rfl⟩
            · have hsq := (hM i hi4).2.1
              rw [hst] at hsq
              have hxb := hok.1.2.2.2.2 x hst
              refine gx_aload_n C 2 dd_Mo_count_115 (kk := ?_)
              refine mo_get C fd_Mo_13 dd_Mo_count_116 (kk := ?_)
              refine gx_iload_n C 3 dd_Mo_count_119 (kk := ?_)
              refine mo_l45 C dd_Mo_count_120 (by omega) (kk := ?_)
              refine gx_topi _ hsq.1 ?_
              refine gx_if_ge C 128 dd_Mo_count_121 (fun h121 => ?_) (fun h121 => absurd (nI_pos' (by omega)) h121)
              refine gx_aload_n C 2 dd_Mo_count_128 (kk := ?_)
              refine mo_get C fd_Mo_16 dd_Mo_count_129 (kk := ?_)
              refine gx_iload_n C 3 dd_Mo_count_132 (kk := ?_)
              refine mo_l46 C dd_Mo_count_133 (by omega) (kk := ?_)
              refine gx_topl _ hsq.2 ?_
              refine gx_l2i C dd_Mo_count_134 (w := nI x.2) (hv := lN_i _) (kk := ?_)
              refine gx_iret C dd_Mo_count_135 ?_
              have hct : o_ct (σ.1 i) (nI 4) = nI x.2 := by
                unfold o_ct
                simp only [hwt, hst]
                rfl
              have hsp : o_count σ (nI i) (nI 4) = (nI x.2, σ) := by
                unfold o_count
                simp only [hi, hct]
              rw [hsp]
              exact ⟨F, L, S, rfl, hr, rfl⟩
        | succ m ih =>
          intro j hj
          refine gx_iload C 0 dd_Mo_count_23 (kk := ?_)
          refine gx_aload_n C 2 dd_Mo_count_25 (kk := ?_)
          refine mo_get C fd_Mo_7 dd_Mo_count_26 (kk := ?_)
          refine gx_iload_n C 3 dd_Mo_count_29 (kk := ?_)
          refine mo_l44 C dd_Mo_count_30 (by omega) (kk := ?_)
          refine gx_topi _ (hM i hi4).1 ?_
          refine gx_icmp_ge C 65 dd_Mo_count_31 (fun h31 => absurd h31 (nI_ge (by omega) (by omega))) (fun h31 => ?_)
          refine gx_aload_n C 2 dd_Mo_count_34 (kk := ?_)
          refine mo_get C fd_Mo_20 dd_Mo_count_35 (kk := ?_)
          refine gx_bipush (v := nI 16) C dd_Mo_count_38 (kk := ?_)
          refine gx_iload_n C 3 dd_Mo_count_40 (kk := ?_)
          refine gx_imul C dd_Mo_count_41 (kk := ?_)
          refine gx_topi _ (pk_mul _ _) ?_
          refine gx_iload C 0 dd_Mo_count_42 (kk := ?_)
          refine gx_iadd C dd_Mo_count_44 (kk := ?_)
          refine gx_topi _ (nI_add _ _) ?_
          refine mo_l47 C dd_Mo_count_45 (by omega) (kk := ?_)
          refine gx_topl _ ((hM i hi4).2.2.1 j (by omega)) ?_
          refine gx_lconst (v := lN 0) C dd_Mo_count_46 (kk := ?_)
          refine gx_lcmp C dd_Mo_count_47 (kk := ?_)
          refine gx_if_lt C 57 dd_Mo_count_48 (fun h48 => ?_) (fun h48 => ?_)
          · refine gx_iload_n C 1 dd_Mo_count_57 (kk := ?_)
            refine gx_topi (nI (am_ce (am_en (σ.1 i)) (j + 1))) ?_ ?_
            · rw [lc_lt] at h48
              have h48b : am_en (σ.1 i) j = none := by
                rcases he : am_en (σ.1 i) j with _ | e
                · rfl
                · exact absurd h48 ((am_e_0 (fun e he => Nat.lt_trans (hok.1.2.2.2.1 _ e he) (by decide))).mpr (by rw [he]; simp))
              show nI _ = nI (am_ce (am_en (σ.1 i)) j + _)
              rw [if_pos h48b]
              rfl
            refine gx_istore_n C _ dd_Mo_count_58 (kk := ?_)
            refine gx_iinc C 1 (nI (j + 1)) _ dd_Mo_count_59 (nI_1 j) (kk := ?_)
            refine gx_goto C 23 dd_Mo_count_62 (kk := ?_)
            exact ih (j + 1) (by omega)
          · refine gx_iload_n C 1 dd_Mo_count_51 (kk := ?_)
            refine gx_iconst (v := nI 1) C dd_Mo_count_52 (kk := ?_)
            refine gx_iadd C dd_Mo_count_53 (kk := ?_)
            refine gx_topi _ (nI_add _ _) ?_
            refine gx_goto C 58 dd_Mo_count_54 (kk := ?_)
            refine gx_topi (nI (am_ce (am_en (σ.1 i)) (j + 1))) ?_ ?_
            · rw [lc_lt, am_e_0 (fun e he => Nat.lt_trans (hok.1.2.2.2.1 _ e he) (by decide))] at h48
              show nI _ = nI (am_ce (am_en (σ.1 i)) j + _)
              rw [if_neg h48]
            refine gx_istore_n C _ dd_Mo_count_58 (kk := ?_)
            refine gx_iinc C 1 (nI (j + 1)) _ dd_Mo_count_59 (nI_1 j) (kk := ?_)
            refine gx_goto C 23 dd_Mo_count_62 (kk := ?_)
            exact ih (j + 1) (by omega)
      exact loop (am_n (σ.1 i)) 0 (by omega)
set_option maxRecDepth 100000 in
set_option maxHeartbeats 4000000 in
theorem ct_Mo_letter (l : Launch) (D : va_G) (dA : Nat → ClassId) (ad : Nat → Nat) (h : Nat → va_E) (F : mo_F) (L : mo_L) (S : Nat → Int32) {σ : sg} (hr : rs F L S σ) (hσ : sg_ok σ) (i : Int32) : gx_Ct l D dA yy_Mo_letter cc_Mo_letter 2 (some .int) 0 0 0 [.ref (ad 43), .int i] (gx_w ad (mo_h dA ad h F L S)) (fun v w => ∃ F2 L2 S2, w = (gx_w ad (mo_h dA ad h F2 L2 S2)) ∧ rs F2 L2 S2 (o_letter σ i).2 ∧ v = some (.int (o_letter σ i).1)) := by
  refine gx_of (by decide) (Nat.le_of_ble_eq_true rfl) (fun K C _ _ => ?_)
  have hM := hr.1
  have hP := hr.2.1
  have hX := hr.2.2
  have hl16 := hX.2.2.1
  by_cases hi : i < 0
  · refine gx_iload_n C 1 dd_Mo_letter_0 (kk := ?_)
    refine gx_if_lt C 21 dd_Mo_letter_1 (fun h1 => ?_) (fun h1 => absurd hi h1)
    refine gx_iconst (v := -1) C dd_Mo_letter_21 (kk := ?_)
    refine gx_iret C dd_Mo_letter_22 ?_
    have hsp : o_letter σ i = (-1, σ) := by
      unfold o_letter
      rw [if_pos hi]
    rw [hsp]
    exact ⟨F, L, S, rfl, hr, rfl⟩
  · obtain ⟨j, hj, rfl⟩ := nI_of hi
    refine gx_iload_n C 1 dd_Mo_letter_0 (kk := ?_)
    refine gx_if_lt C 21 dd_Mo_letter_1 (fun h1 => absurd h1 hi) (fun h1 => ?_)
    refine gx_iload_n C 1 dd_Mo_letter_4 (kk := ?_)
    refine gx_aload_n C 0 dd_Mo_letter_5 (kk := ?_)
    refine mo_get C fd_Mo_180 dd_Mo_letter_6 (kk := ?_)
    refine gx_topi _ hX.1 ?_
    refine gx_icmp_ge C 21 dd_Mo_letter_9 (fun h9 => ?_) (fun h9 => ?_)
    · refine gx_iconst (v := -1) C dd_Mo_letter_21 (kk := ?_)
      refine gx_iret C dd_Mo_letter_22 ?_
      have hsp : o_letter σ (nI j) = (on_r σ.2.2[j]?, σ) := by
        unfold o_letter
        rw [if_neg hi, nI_clamp hj]
      rw [hsp]
      rw [nI_leI (by omega) (by omega)] at h9
      rw [List.getElem?_eq_none (by omega)]
      exact ⟨F, L, S, rfl, hr, rfl⟩
    · have hjl : j < σ.2.2.length := by rw [nI_leI (by omega) (by omega)] at h9; omega
      obtain ⟨c0, hc0⟩ : ∃ c, σ.2.2[j]? = some c := ⟨_, List.getElem?_eq_getElem hjl⟩
      refine gx_aload_n C 0 dd_Mo_letter_12 (kk := ?_)
      refine mo_get C fd_Mo_47 dd_Mo_letter_13 (kk := ?_)
      refine gx_iload_n C 1 dd_Mo_letter_16 (kk := ?_)
      refine mo_l56 C dd_Mo_letter_17 (by omega) (kk := ?_)
      refine gx_topi _ (hX.2.1 j c0 hc0) ?_
      refine gx_goto C 22 dd_Mo_letter_18 (kk := ?_)
      refine gx_iret C dd_Mo_letter_22 ?_
      have hsp : o_letter σ (nI j) = (on_r σ.2.2[j]?, σ) := by
        unfold o_letter
        rw [if_neg hi, nI_clamp hj]
      rw [hsp]
      rw [hc0]
      exact ⟨F, L, S, rfl, hr, rfl⟩
theorem rs_X_ad {F F2 : mo_F} {S S2 : Nat → Int32} {X : List Nat} {c : Nat} (hF : F2 = va_up F 56 (upd (F 56) X.length (nI c))) (hS : S2 = va_up S 14 (nI (X.length + 1))) (hc : c < 65536) (hl : X.length < 1600) (h : rs_X F S X) : rs_X F2 S2 (X ++ [c]) := by
  refine ⟨?_, fun j d hd => ?_, ?_, fun d hd => ?_⟩
  · rw [hS, gm_us, List.length_append]
    rfl
  · rw [hF, gm_us]
    rw [List.getElem?_append] at hd
    by_cases hj : j < X.length
    · rw [if_pos hj] at hd
      rw [pk_un (by omega)]
      exact h.2.1 j d hd
    · rw [if_neg hj] at hd
      have hj2 := (List.getElem?_eq_some_iff.mp hd).1
      have hj3 : j - X.length = 0 := by
        have : j - X.length < 1 := hj2
        omega
      rw [hj3] at hd
      cases hd
      rw [show j = X.length by omega, pk_us]
  · rw [List.length_append]
    show X.length + 1 ≤ 1600
    omega
  · rcases List.mem_append.mp hd with hd | hd
    · exact h.2.2.2 d hd
    · rw [List.mem_singleton.mp hd]
      exact hc
set_option maxRecDepth 100000 in
set_option maxHeartbeats 4000000 in
theorem ct_Mo_say (l : Launch) (D : va_G) (dA : Nat → ClassId) (ad : Nat → Nat) (h : Nat → va_E) (F : mo_F) (L : mo_L) (S : Nat → Int32) {X : List Nat} {c : Nat} (hX : rs_X F S X) (hc : c < 65536) (hl : X.length < 1600) : gx_Ct l D dA yy_Mo_say cc_Mo_say 2 none 0 0 0 [.ref (ad 43), .int (nI c)] (gx_w ad (mo_h dA ad h F L S)) (fun v w => v = none ∧ ∃ F2 S2, w = (gx_w ad (mo_h dA ad h F2 L S2)) ∧ rs_X F2 S2 (X ++ [c]) ∧ (∀ k, k ≠ 56 → F2 k = F k) ∧ ∀ k, k ≠ 14 → S2 k = S k) := by
  refine gx_of (by decide) (Nat.le_of_ble_eq_true rfl) (fun K C _ _ => ?_)
  refine gx_aload_n C 0 dd_Mo_say_0 (kk := ?_)
  refine mo_get C fd_Mo_47 dd_Mo_say_1 (kk := ?_)
  refine gx_aload_n C 0 dd_Mo_say_4 (kk := ?_)
  refine mo_get C fd_Mo_180 dd_Mo_say_5 (kk := ?_)
  refine gx_topi _ hX.1 ?_
  refine gx_iload_n C 1 dd_Mo_say_8 (kk := ?_)
  refine mo_s56 C dd_Mo_say_9 (by omega) (kk := fun F9 hF9 => ?_)
  refine gx_aload_n C 0 dd_Mo_say_10 (kk := ?_)
  refine gx_dup C dd_Mo_say_11 (kk := ?_)
  refine mo_get C fd_Mo_180 dd_Mo_say_12 (kk := ?_)
  refine gx_topi _ hX.1 ?_
  refine gx_iconst (v := nI 1) C dd_Mo_say_15 (kk := ?_)
  refine gx_iadd C dd_Mo_say_16 (kk := ?_)
  refine gx_topi _ (nI_add _ _) ?_
  refine mo_put_14 C fw_Mo_180 dd_Mo_say_17 (kk := fun S17 hS17 => ?_)
  refine gx_vret C dd_Mo_say_20 ?_
  exact ⟨rfl, F9, S17, rfl, rs_X_ad hF9 hS17 hc hl hX, fun k hk => by rw [hF9, gm_un hk], fun k hk => by rw [hS17, gm_un hk]⟩
theorem mo_m1 (m : Nat) : nI m + Int32.ofInt (-1) = nI m + -1 := rfl
def fd_dn : Nat → Int32
  | 0 => -1
  | m + 1 => nI m
theorem fd_dn_s (m : Nat) : nI m + Int32.ofInt (-1) = fd_dn m := by
  cases m with
  | zero => decide
  | succ m => exact pk_m1 m
theorem rs_feed {F F2 : mo_F} {L : mo_L} {S S2 : Nat → Int32} {σ : sg} {X : List Nat} (hr : rs F L S σ) (hF : ∀ k, k ≠ 56 → F2 k = F k) (hS : ∀ k, k ≠ 14 → S2 k = S k) (hX : rs_X F2 S2 X) : rs F2 L S2 (σ.1, σ.2.1, X) := by
  refine ⟨fun i hi => ?_, rs_P_t (hF 54 (by decide)) rfl (hS 10 (by decide)) hr.2.1, hX⟩
  have h := hr.1 i hi
  unfold mo_is mo_a at h ⊢
  rw [hF 44 (by decide), hF 45 (by decide), hF 48 (by decide), hF 49 (by decide), hF 50 (by decide), hF 51 (by decide), hF 52 (by decide)]
  exact h
theorem mo_n1 {n : Int32} (h0 : ¬ n = 0) (h : ¬ n < nI 1) : ¬ n < 0 := fun e => h (Int32.lt_trans e (by decide))
set_option maxRecDepth 100000 in
set_option maxHeartbeats 4000000 in
theorem ct_Mo_feed (l : Launch) (D : va_G) (dA : Nat → ClassId) (ad : Nat → Nat) (h : Nat → va_E) (F : mo_F) (L : mo_L) (S : Nat → Int32) {σ : sg} (hr : rs F L S σ) (hσ : sg_ok σ) (x : Int64) (n : Int32) : gx_Ct l D dA yy_Mo_feed cc_Mo_feed 6 (some .int) 1 0 0 [.ref (ad 43), .long x, .int n] (gx_w ad (mo_h dA ad h F L S)) (fun v w => ∃ F2 L2 S2, w = (gx_w ad (mo_h dA ad h F2 L2 S2)) ∧ rs F2 L2 S2 (o_feed σ x n).2 ∧ v = some (.int (o_feed σ x n).1)) := by
  refine gx_of (by decide) (Nat.le_of_ble_eq_true rfl) (fun K C _ _ => ?_)
  have hM := hr.1
  have hP := hr.2.1
  have hX := hr.2.2
  have hl16 := hX.2.2.1
  rcases ix_9 n with hn | rfl | ⟨m0, hm0, rfl⟩
  · refine gx_iload_n C 2 dd_Mo_feed_0 (kk := ?_)
    refine gx_if_ne C 11 dd_Mo_feed_1 (fun h1 => ?_) (fun h1 => absurd hn (by rw [h1]; decide))
    refine gx_iload_n C 2 dd_Mo_feed_11 (kk := ?_)
    refine gx_iconst (v := nI 1) C dd_Mo_feed_12 (kk := ?_)
    refine gx_icmp_lt C 34 dd_Mo_feed_13 (fun h13 => ?_) (fun h13 => ?_)
    · refine gx_iconst (v := -1) C dd_Mo_feed_34 (kk := ?_)
      refine gx_iret C dd_Mo_feed_35 ?_
      have hsp : o_feed σ x n = (-1, σ) := by
        unfold o_feed
        simp only [hn]
      rw [hsp]
      exact ⟨F, L, S, rfl, hr, rfl⟩
    · refine gx_iload_n C 2 dd_Mo_feed_16 (kk := ?_)
      refine gx_bipush (v := nI 8) C dd_Mo_feed_17 (kk := ?_)
      refine gx_icmp_gt C 34 dd_Mo_feed_19 (fun h19 => ?_) (fun h19 => absurd (Int32.not_lt.mp h19) (ix_nle (m := 8) (by decide) hn (mo_n1 h1 h13)))
      refine gx_iconst (v := -1) C dd_Mo_feed_34 (kk := ?_)
      refine gx_iret C dd_Mo_feed_35 ?_
      have hsp : o_feed σ x n = (-1, σ) := by
        unfold o_feed
        simp only [hn]
      rw [hsp]
      exact ⟨F, L, S, rfl, hr, rfl⟩
  · have hn : ix 9 (nI 0) = some 0 := ix_some (by decide) (by decide)
    refine gx_iload_n C 2 dd_Mo_feed_0 (kk := ?_)
    refine gx_if_ne C 11 dd_Mo_feed_1 (fun h1 => absurd rfl h1) (fun h1 => ?_)
    refine gx_aload_n C 0 dd_Mo_feed_4 (kk := ?_)
    refine gx_iconst (v := nI 0) C dd_Mo_feed_5 (kk := ?_)
    refine mo_put_14 C fw_Mo_180 dd_Mo_feed_6 (kk := fun S6 hS6 => ?_)
    refine gx_iconst (v := nI 0) C dd_Mo_feed_9 (kk := ?_)
    refine gx_iret C dd_Mo_feed_10 ?_
    have hsp : o_feed σ x (nI 0) = (nI 0, (σ.1, σ.2.1, [])) := by
      unfold o_feed
      simp only [hn]
    rw [hsp]
    exact ⟨F, L, S6, rfl, rs_feed hr (fun _ _ => rfl) (fun k hk => by rw [hS6, gm_un hk]) ⟨by rw [hS6, gm_us]; rfl, fun j c h => (by cases h), Nat.zero_le _, fun c h => (by cases h)⟩, rfl⟩
  · have hn : ix 9 (nI (m0 + 1)) = some (m0 + 1) := ix_some (by omega) (by decide)
    refine gx_iload_n C 2 dd_Mo_feed_0 (kk := ?_)
    refine gx_if_ne C 11 dd_Mo_feed_1 (fun h1 => ?_) (fun h1 => absurd h1 (nI_ne0 (by omega) (by omega)))
    refine gx_iload_n C 2 dd_Mo_feed_11 (kk := ?_)
    refine gx_iconst (v := nI 1) C dd_Mo_feed_12 (kk := ?_)
    refine gx_icmp_lt C 34 dd_Mo_feed_13 (fun h13 => absurd h13 (nI_nlt (by omega) (by omega))) (fun h13 => ?_)
    refine gx_iload_n C 2 dd_Mo_feed_16 (kk := ?_)
    refine gx_bipush (v := nI 8) C dd_Mo_feed_17 (kk := ?_)
    refine gx_icmp_gt C 34 dd_Mo_feed_19 (fun h19 => absurd h19 (nI_nlt (by omega) (by omega))) (fun h19 => ?_)
    refine gx_aload_n C 0 dd_Mo_feed_22 (kk := ?_)
    refine mo_get C fd_Mo_180 dd_Mo_feed_23 (kk := ?_)
    refine gx_topi _ hX.1 ?_
    refine gx_iload_n C 2 dd_Mo_feed_26 (kk := ?_)
    refine gx_iadd C dd_Mo_feed_27 (kk := ?_)
    refine gx_topi _ (nI_add _ _) ?_
    refine gx_sipush (v := nI 1600) C dd_Mo_feed_28 (kk := ?_)
    refine gx_icmp_le C 36 dd_Mo_feed_31 (fun h31 => ?_) (fun h31 => ?_)
    · rw [nI_leI (by omega) (by decide)] at h31
      have loopA : ∀ m i, i + m = m0 + 1 → lt_ok x i = true → gx_G K D 6 0 0 39 [(4, .int (nI i)), (0, .ref (ad 43)), (1, .long x), (3, .int (nI (m0 + 1)))] [] (gx_w ad (mo_h dA ad h F L S)) (gx_Z K D dA 0 0 (fun v w => ∃ F2 L2 S2, w = (gx_w ad (mo_h dA ad h F2 L2 S2)) ∧ rs F2 L2 S2 (o_feed σ x (nI (m0 + 1))).2 ∧ v = some (.int (o_feed σ x (nI (m0 + 1))).1))) := by
        intro m
        induction m with
        | zero =>
          intro i hi hok
          refine gx_iload C 0 dd_Mo_feed_39 (kk := ?_)
          refine gx_iload_n C 3 dd_Mo_feed_41 (kk := ?_)
          refine gx_icmp_ge C 81 dd_Mo_feed_42 (fun h42 => ?_) (fun h42 => absurd (nI_le (a := m0 + 1) (b := i) (by omega) (by omega)) h42)
          refine gx_iload_n C 3 dd_Mo_feed_81 (kk := ?_)
          refine gx_iconst (v := nI 1) C dd_Mo_feed_82 (kk := ?_)
          refine gx_isub C dd_Mo_feed_83 (kk := ?_)
          refine gx_topi (fd_dn (m0 + 1)) (pk_sub (a := m0 + 1) (b := 1) (by omega)) ?_
          refine gx_istore C _ dd_Mo_feed_84 (kk := ?_)
          have hsp : o_feed σ x (nI (m0 + 1)) = (nI (σ.2.2.length + (m0 + 1)), (σ.1, σ.2.1, σ.2.2 ++ lt_ds x (m0 + 1))) := by
            unfold o_feed
            simp only [hn]
            rw [if_pos ⟨by omega, by rw [show m0 + 1 = i by omega]; exact hok⟩]
          have loopB : ∀ m Y F1 S1, Y.length + m ≤ 1600 → m ≤ 8 → rs_X F1 S1 Y → σ.2.2 ++ lt_ds x (m0 + 1) = Y ++ lt_ds x m → (∀ k, k ≠ 56 → F1 k = F k) → (∀ k, k ≠ 14 → S1 k = S k) → gx_G K D 6 0 0 86 [(4, .int (fd_dn m)), (0, .ref (ad 43)), (1, .long x), (3, .int (nI (m0 + 1)))] [] (gx_w ad (mo_h dA ad h F1 L S1)) (gx_Z K D dA 0 0 (fun v w => ∃ F2 L2 S2, w = (gx_w ad (mo_h dA ad h F2 L2 S2)) ∧ rs F2 L2 S2 (o_feed σ x (nI (m0 + 1))).2 ∧ v = some (.int (o_feed σ x (nI (m0 + 1))).1))) := by
            intro m
            induction m with
            | zero =>
              intro Y F1 S1 hYl hm8 hY hE hF1 hS1
              refine gx_iload C 0 dd_Mo_feed_86 (kk := ?_)
              refine gx_if_lt C 113 dd_Mo_feed_88 (fun h88 => ?_) (fun h88 => absurd (by decide) h88)
              refine gx_aload_n C 1 dd_Mo_feed_113 (kk := ?_)
              refine mo_get C fd_Mo_180 dd_Mo_feed_114 (kk := ?_)
              refine gx_topi _ hY.1 ?_
              refine gx_iret C dd_Mo_feed_117 ?_
              rw [show Y = σ.2.2 ++ lt_ds x (m0 + 1) by rw [hE]; exact (List.append_nil _).symm] at hY ⊢
              rw [hsp]
              exact ⟨F1, L, S1, rfl, rs_feed hr hF1 hS1 hY, by rw [List.length_append, lt_ds_len]⟩
            | succ m ih =>
              intro Y F1 S1 hYl hm8 hY hE hF1 hS1
              have hlb := lt_b_lt x m
              refine gx_iload C 0 dd_Mo_feed_86 (kk := ?_)
              refine gx_if_lt C 113 dd_Mo_feed_88 (fun h88 => absurd h88 (nI_pos (by omega))) (fun h88 => ?_)
              refine gx_aload_n C 1 dd_Mo_feed_91 (kk := ?_)
              refine gx_lload_n C 2 dd_Mo_feed_92 (kk := ?_)
              refine gx_bipush (v := nI 8) C dd_Mo_feed_93 (kk := ?_)
              refine gx_iload C 0 dd_Mo_feed_95 (kk := ?_)
              refine gx_imul C dd_Mo_feed_97 (kk := ?_)
              refine gx_topi _ (pk_mul _ _) ?_
              refine gx_lshr C dd_Mo_feed_98 (w := x >>> ((nI (8 * m)).toInt64 &&& 63)) (hv := rfl) (kk := ?_)
              refine gx_ldc2 C dd_Mo_feed_99 kc_Mo_195 (kk := ?_)
              refine gx_land C dd_Mo_feed_102 (kk := ?_)
              refine gx_topl (lN (lt_b x m)) (lt_shr x (by omega)) ?_
              refine gx_l2i C dd_Mo_feed_103 (w := nI (lt_b x m)) (hv := lN_i _) (kk := ?_)
              refine gx_callV C (ct_Mo_say (gx_l K) D dA ad h F1 L S1 (X := Y) (c := lt_b x m) hY (by omega) (by omega)) me_Mo_say ml_Mo_188 mn_Mo_say _ (gx_w_at (by decide) mo_h_43) rfl dd_Mo_feed_104 (kk := fun v w hq => ?_)
              obtain ⟨rfl, F2, S2, rfl, hY2, hF2, hS2⟩ := hq
              refine gx_iinc C 0 (fd_dn m) _ dd_Mo_feed_107 (fd_dn_s m) (kk := ?_)
              refine gx_goto C 86 dd_Mo_feed_110 (kk := ?_)
              exact ih (Y ++ [lt_b x m]) F2 S2 (by rw [List.length_append]; show Y.length + 1 + m ≤ 1600; omega) (by omega) hY2 (by rw [hE, lt_ds, List.append_assoc]; rfl) (fun k hk => (hF2 k hk).trans (hF1 k hk)) (fun k hk => (hS2 k hk).trans (hS1 k hk))
          exact loopB (m0 + 1) σ.2.2 F S (by omega) (by omega) hX rfl (fun _ _ => rfl) (fun _ _ => rfl)
        | succ m ih =>
          intro i hi hok
          have hlb := lt_b_lt x i
          refine gx_iload C 0 dd_Mo_feed_39 (kk := ?_)
          refine gx_iload_n C 3 dd_Mo_feed_41 (kk := ?_)
          refine gx_icmp_ge C 81 dd_Mo_feed_42 (fun h42 => absurd h42 (nI_ge (by omega) (by omega))) (fun h42 => ?_)
          refine gx_lload_n C 2 dd_Mo_feed_45 (kk := ?_)
          refine gx_bipush (v := nI 8) C dd_Mo_feed_46 (kk := ?_)
          refine gx_iload C 0 dd_Mo_feed_48 (kk := ?_)
          refine gx_imul C dd_Mo_feed_50 (kk := ?_)
          refine gx_topi _ (pk_mul _ _) ?_
          refine gx_lshr C dd_Mo_feed_51 (w := x >>> ((nI (8 * i)).toInt64 &&& 63)) (hv := rfl) (kk := ?_)
          refine gx_ldc2 C dd_Mo_feed_52 kc_Mo_195 (kk := ?_)
          refine gx_land C dd_Mo_feed_55 (kk := ?_)
          refine gx_topl (lN (lt_b x i)) (lt_shr x (by omega)) ?_
          refine gx_l2i C dd_Mo_feed_56 (w := nI (lt_b x i)) (hv := lN_i _) (kk := ?_)
          refine gx_istore C _ dd_Mo_feed_57 (kk := ?_)
          refine gx_iload C 0 dd_Mo_feed_59 (kk := ?_)
          refine gx_bipush (v := nI 32) C dd_Mo_feed_61 (kk := ?_)
          refine gx_icmp_lt C 73 dd_Mo_feed_63 (fun h63 => ?_) (fun h63 => ?_)
          · refine gx_iconst (v := -1) C dd_Mo_feed_73 (kk := ?_)
            refine gx_iret C dd_Mo_feed_74 ?_
            have hbad : lt_k x i = false := by
              unfold lt_k
              rw [nI_ltI (by omega) (by decide)] at h63
              rw [decide_eq_false (show ¬ 32 ≤ lt_b x i by omega)]
              rfl
            have hsp : o_feed σ x (nI (m0 + 1)) = (-1, σ) := by
              unfold o_feed
              simp only [hn]
              rw [if_neg (fun e => by rw [lt_ok_f hbad (m0 + 1) (by omega)] at e; exact absurd e.2 (by decide))]
            rw [hsp]
            exact ⟨F, L, S, rfl, hr, rfl⟩
          · refine gx_iload C 0 dd_Mo_feed_66 (kk := ?_)
            refine gx_bipush (v := nI 126) C dd_Mo_feed_68 (kk := ?_)
            refine gx_icmp_le C 75 dd_Mo_feed_70 (fun h70 => ?_) (fun h70 => ?_)
            · have hgood : lt_ok x (i + 1) = true := by
                rw [nI_ltI (by omega) (by decide)] at h63
                rw [nI_leI (by omega) (by decide)] at h70
                show (lt_ok x i && (decide (32 ≤ lt_b x i) && decide (lt_b x i ≤ 126))) = true
                rw [hok, decide_eq_true (show 32 ≤ lt_b x i by omega), decide_eq_true (show lt_b x i ≤ 126 by omega)]
                rfl
              refine gx_iinc C 1 (nI (i + 1)) _ dd_Mo_feed_75 (nI_1 i) (kk := ?_)
              refine gx_goto C 39 dd_Mo_feed_78 (kk := ?_)
              refine gx_loc [0, 2, 3, 4] ?_
              exact ih (i + 1) (by omega) hgood
            · refine gx_iconst (v := -1) C dd_Mo_feed_73 (kk := ?_)
              refine gx_iret C dd_Mo_feed_74 ?_
              have hbad : lt_k x i = false := by
                unfold lt_k
                rw [nI_leI (by omega) (by decide)] at h70
                rw [decide_eq_false (show ¬ lt_b x i ≤ 126 by omega), Bool.and_false]
              have hsp : o_feed σ x (nI (m0 + 1)) = (-1, σ) := by
                unfold o_feed
                simp only [hn]
                rw [if_neg (fun e => by rw [lt_ok_f hbad (m0 + 1) (by omega)] at e; exact absurd e.2 (by decide))]
              rw [hsp]
              exact ⟨F, L, S, rfl, hr, rfl⟩
      refine gx_iconst (v := nI 0) C dd_Mo_feed_36 (kk := ?_)
      refine gx_istore C _ dd_Mo_feed_37 (kk := ?_)
      exact loopA (m0 + 1) 0 (by omega) rfl
    · rw [nI_leI (by omega) (by decide)] at h31
      refine gx_iconst (v := -1) C dd_Mo_feed_34 (kk := ?_)
      refine gx_iret C dd_Mo_feed_35 ?_
      have hsp : o_feed σ x (nI (m0 + 1)) = (-1, σ) := by
        unfold o_feed
        simp only [hn]
        rw [if_neg (fun e => by omega)]
      rw [hsp]
      exact ⟨F, L, S, rfl, hr, rfl⟩
