theorem dd_WM_fresh_0 : decode cc_WM_fresh 0 = .ok (.iload_n 1, 1) := by decide +kernel
theorem dd_WM_fresh_1 : decode cc_WM_fresh 1 = .ok (.invokestatic 76, 3) := by decide +kernel
theorem dd_WM_fresh_4 : decode cc_WM_fresh 4 = .ok (.ifCond .eq 13, 3) := by decide +kernel
theorem dd_WM_fresh_7 : decode cc_WM_fresh 7 = .ok (.iload_n 2, 1) := by decide +kernel
theorem dd_WM_fresh_8 : decode cc_WM_fresh 8 = .ok (.ifCond .lt 9, 3) := by decide +kernel
theorem dd_WM_fresh_11 : decode cc_WM_fresh 11 = .ok (.iload_n 2, 1) := by decide +kernel
theorem dd_WM_fresh_12 : decode cc_WM_fresh 12 = .ok (.bipush 16, 2) := by decide +kernel
theorem dd_WM_fresh_14 : decode cc_WM_fresh 14 = .ok (.if_icmp .le 5, 3) := by decide +kernel
theorem dd_WM_fresh_17 : decode cc_WM_fresh 17 = .ok (.iconst 0, 1) := by decide +kernel
theorem dd_WM_fresh_18 : decode cc_WM_fresh 18 = .ok (.ireturn, 1) := by decide +kernel
theorem dd_WM_fresh_19 : decode cc_WM_fresh 19 = .ok (.aload_n 0, 1) := by decide +kernel
theorem dd_WM_fresh_20 : decode cc_WM_fresh 20 = .ok (.getfield 11, 3) := by decide +kernel
theorem dd_WM_fresh_23 : decode cc_WM_fresh 23 = .ok (.iload_n 1, 1) := by decide +kernel
theorem dd_WM_fresh_24 : decode cc_WM_fresh 24 = .ok (.aaload, 1) := by decide +kernel
theorem dd_WM_fresh_25 : decode cc_WM_fresh 25 = .ok (.iload_n 2, 1) := by decide +kernel
theorem dd_WM_fresh_26 : decode cc_WM_fresh 26 = .ok (.invokevirtual 80, 3) := by decide +kernel
theorem dd_WM_fresh_29 : decode cc_WM_fresh 29 = .ok (.iconst 1, 1) := by decide +kernel
theorem dd_WM_fresh_30 : decode cc_WM_fresh 30 = .ok (.ireturn, 1) := by decide +kernel
theorem dd_WM_start_0 : decode cc_WM_start 0 = .ok (.aload_n 0, 1) := by decide +kernel
theorem dd_WM_start_1 : decode cc_WM_start 1 = .ok (.iload_n 1, 1) := by decide +kernel
theorem dd_WM_start_2 : decode cc_WM_start 2 = .ok (.iload_n 2, 1) := by decide +kernel
theorem dd_WM_start_3 : decode cc_WM_start 3 = .ok (.invokevirtual 84, 3) := by decide +kernel
theorem dd_WM_start_6 : decode cc_WM_start 6 = .ok (.ifCond .eq 11, 3) := by decide +kernel
theorem dd_WM_start_9 : decode cc_WM_start 9 = .ok (.iload_n 3, 1) := by decide +kernel
theorem dd_WM_start_10 : decode cc_WM_start 10 = .ok (.i2l, 1) := by decide +kernel
theorem dd_WM_start_11 : decode cc_WM_start 11 = .ok (.invokestatic 88, 3) := by decide +kernel
theorem dd_WM_start_14 : decode cc_WM_start 14 = .ok (.ifCond .ne 5, 3) := by decide +kernel
theorem dd_WM_start_17 : decode cc_WM_start 17 = .ok (.iconst 0, 1) := by decide +kernel
theorem dd_WM_start_18 : decode cc_WM_start 18 = .ok (.ireturn, 1) := by decide +kernel
theorem dd_WM_start_19 : decode cc_WM_start 19 = .ok (.aload_n 0, 1) := by decide +kernel
theorem dd_WM_start_20 : decode cc_WM_start 20 = .ok (.getfield 11, 3) := by decide +kernel
theorem dd_WM_start_23 : decode cc_WM_start 23 = .ok (.iload_n 1, 1) := by decide +kernel
theorem dd_WM_start_24 : decode cc_WM_start 24 = .ok (.aaload, 1) := by decide +kernel
theorem dd_WM_start_25 : decode cc_WM_start 25 = .ok (.iload_n 2, 1) := by decide +kernel
theorem dd_WM_start_26 : decode cc_WM_start 26 = .ok (.iload_n 3, 1) := by decide +kernel
theorem dd_WM_start_27 : decode cc_WM_start 27 = .ok (.i2l, 1) := by decide +kernel
theorem dd_WM_start_28 : decode cc_WM_start 28 = .ok (.invokevirtual 92, 3) := by decide +kernel
theorem dd_WM_start_31 : decode cc_WM_start 31 = .ok (.iconst 1, 1) := by decide +kernel
theorem dd_WM_start_32 : decode cc_WM_start 32 = .ok (.ireturn, 1) := by decide +kernel
theorem dd_WM_end_0 : decode cc_WM_end 0 = .ok (.aload_n 0, 1) := by decide +kernel
theorem dd_WM_end_1 : decode cc_WM_end 1 = .ok (.iload_n 1, 1) := by decide +kernel
theorem dd_WM_end_2 : decode cc_WM_end 2 = .ok (.iload_n 2, 1) := by decide +kernel
theorem dd_WM_end_3 : decode cc_WM_end 3 = .ok (.invokevirtual 84, 3) := by decide +kernel
theorem dd_WM_end_6 : decode cc_WM_end 6 = .ok (.ifCond .eq 16, 3) := by decide +kernel
theorem dd_WM_end_9 : decode cc_WM_end 9 = .ok (.iload_n 3, 1) := by decide +kernel
theorem dd_WM_end_10 : decode cc_WM_end 10 = .ok (.iconst (-1), 1) := by decide +kernel
theorem dd_WM_end_11 : decode cc_WM_end 11 = .ok (.if_icmp .eq 13, 3) := by decide +kernel
theorem dd_WM_end_14 : decode cc_WM_end 14 = .ok (.iload_n 3, 1) := by decide +kernel
theorem dd_WM_end_15 : decode cc_WM_end 15 = .ok (.i2l, 1) := by decide +kernel
theorem dd_WM_end_16 : decode cc_WM_end 16 = .ok (.invokestatic 88, 3) := by decide +kernel
theorem dd_WM_end_19 : decode cc_WM_end 19 = .ok (.ifCond .ne 5, 3) := by decide +kernel
theorem dd_WM_end_22 : decode cc_WM_end 22 = .ok (.iconst 0, 1) := by decide +kernel
theorem dd_WM_end_23 : decode cc_WM_end 23 = .ok (.ireturn, 1) := by decide +kernel
theorem dd_WM_end_24 : decode cc_WM_end 24 = .ok (.aload_n 0, 1) := by decide +kernel
theorem dd_WM_end_25 : decode cc_WM_end 25 = .ok (.getfield 11, 3) := by decide +kernel
theorem dd_WM_end_28 : decode cc_WM_end 28 = .ok (.iload_n 1, 1) := by decide +kernel
theorem dd_WM_end_29 : decode cc_WM_end 29 = .ok (.aaload, 1) := by decide +kernel
theorem dd_WM_end_30 : decode cc_WM_end 30 = .ok (.getfield 96, 3) := by decide +kernel
theorem dd_WM_end_33 : decode cc_WM_end 33 = .ok (.iload_n 2, 1) := by decide +kernel
theorem dd_WM_end_34 : decode cc_WM_end 34 = .ok (.iload_n 3, 1) := by decide +kernel
theorem dd_WM_end_35 : decode cc_WM_end 35 = .ok (.i2l, 1) := by decide +kernel
theorem dd_WM_end_36 : decode cc_WM_end 36 = .ok (.lastore, 1) := by decide +kernel
theorem dd_WM_end_37 : decode cc_WM_end 37 = .ok (.iconst 1, 1) := by decide +kernel
theorem dd_WM_end_38 : decode cc_WM_end 38 = .ok (.ireturn, 1) := by decide +kernel
theorem dd_WM_arc_0 : decode cc_WM_arc 0 = .ok (.aload_n 0, 1) := by decide +kernel
theorem dd_WM_arc_1 : decode cc_WM_arc 1 = .ok (.iload_n 1, 1) := by decide +kernel
theorem dd_WM_arc_2 : decode cc_WM_arc 2 = .ok (.iload_n 2, 1) := by decide +kernel
theorem dd_WM_arc_3 : decode cc_WM_arc 3 = .ok (.invokevirtual 84, 3) := by decide +kernel
theorem dd_WM_arc_6 : decode cc_WM_arc 6 = .ok (.ifCond .eq 21, 3) := by decide +kernel
theorem dd_WM_arc_9 : decode cc_WM_arc 9 = .ok (.aload_n 0, 1) := by decide +kernel
theorem dd_WM_arc_10 : decode cc_WM_arc 10 = .ok (.iload_n 1, 1) := by decide +kernel
theorem dd_WM_arc_11 : decode cc_WM_arc 11 = .ok (.iload_n 3, 1) := by decide +kernel
theorem dd_WM_arc_12 : decode cc_WM_arc 12 = .ok (.invokevirtual 84, 3) := by decide +kernel
theorem dd_WM_arc_15 : decode cc_WM_arc 15 = .ok (.ifCond .eq 12, 3) := by decide +kernel
theorem dd_WM_arc_18 : decode cc_WM_arc 18 = .ok (.iload 5, 2) := by decide +kernel
theorem dd_WM_arc_20 : decode cc_WM_arc 20 = .ok (.i2l, 1) := by decide +kernel
theorem dd_WM_arc_21 : decode cc_WM_arc 21 = .ok (.invokestatic 88, 3) := by decide +kernel
theorem dd_WM_arc_24 : decode cc_WM_arc 24 = .ok (.ifCond .ne 5, 3) := by decide +kernel
theorem dd_WM_arc_27 : decode cc_WM_arc 27 = .ok (.iconst (-1), 1) := by decide +kernel
theorem dd_WM_arc_28 : decode cc_WM_arc 28 = .ok (.ireturn, 1) := by decide +kernel
theorem dd_WM_arc_29 : decode cc_WM_arc 29 = .ok (.iload 4, 2) := by decide +kernel
theorem dd_WM_arc_31 : decode cc_WM_arc 31 = .ok (.ifCond .lt 10, 3) := by decide +kernel
theorem dd_WM_arc_34 : decode cc_WM_arc 34 = .ok (.iload 4, 2) := by decide +kernel
theorem dd_WM_arc_36 : decode cc_WM_arc 36 = .ok (.bipush 64, 2) := by decide +kernel
theorem dd_WM_arc_38 : decode cc_WM_arc 38 = .ok (.if_icmp .lt 5, 3) := by decide +kernel
theorem dd_WM_arc_41 : decode cc_WM_arc 41 = .ok (.iconst (-1), 1) := by decide +kernel
theorem dd_WM_arc_42 : decode cc_WM_arc 42 = .ok (.ireturn, 1) := by decide +kernel
theorem dd_WM_arc_43 : decode cc_WM_arc 43 = .ok (.aload_n 0, 1) := by decide +kernel
theorem dd_WM_arc_44 : decode cc_WM_arc 44 = .ok (.getfield 11, 3) := by decide +kernel
theorem dd_WM_arc_47 : decode cc_WM_arc 47 = .ok (.iload_n 1, 1) := by decide +kernel
theorem dd_WM_arc_48 : decode cc_WM_arc 48 = .ok (.aaload, 1) := by decide +kernel
theorem dd_WM_arc_49 : decode cc_WM_arc 49 = .ok (.astore 6, 2) := by decide +kernel
theorem dd_WM_arc_51 : decode cc_WM_arc 51 = .ok (.aload 6, 2) := by decide +kernel
theorem dd_WM_arc_53 : decode cc_WM_arc 53 = .ok (.iload_n 2, 1) := by decide +kernel
theorem dd_WM_arc_54 : decode cc_WM_arc 54 = .ok (.iload 4, 2) := by decide +kernel
theorem dd_WM_arc_56 : decode cc_WM_arc 56 = .ok (.iload_n 3, 1) := by decide +kernel
theorem dd_WM_arc_57 : decode cc_WM_arc 57 = .ok (.invokestatic 100, 3) := by decide +kernel
theorem dd_WM_arc_60 : decode cc_WM_arc 60 = .ok (.iload 5, 2) := by decide +kernel
theorem dd_WM_arc_62 : decode cc_WM_arc 62 = .ok (.i2l, 1) := by decide +kernel
theorem dd_WM_arc_63 : decode cc_WM_arc 63 = .ok (.invokevirtual 104, 3) := by decide +kernel
theorem dd_WM_arc_66 : decode cc_WM_arc 66 = .ok (.ifCond .eq 11, 3) := by decide +kernel
theorem dd_WM_arc_69 : decode cc_WM_arc 69 = .ok (.aload 6, 2) := by decide +kernel
theorem dd_WM_arc_71 : decode cc_WM_arc 71 = .ok (.getfield 108, 3) := by decide +kernel
theorem dd_WM_arc_74 : decode cc_WM_arc 74 = .ok (.goto 5, 3) := by decide +kernel
theorem dd_WM_arc_77 : decode cc_WM_arc 77 = .ok (.bipush (-2), 2) := by decide +kernel
theorem dd_WM_arc_79 : decode cc_WM_arc 79 = .ok (.ireturn, 1) := by decide +kernel
theorem dd_WM_step_0 : decode cc_WM_step 0 = .ok (.iload_n 1, 1) := by decide +kernel
theorem dd_WM_step_1 : decode cc_WM_step 1 = .ok (.ifCond .lt 14, 3) := by decide +kernel
theorem dd_WM_step_4 : decode cc_WM_step 4 = .ok (.iload_n 1, 1) := by decide +kernel
theorem dd_WM_step_5 : decode cc_WM_step 5 = .ok (.aload_n 0, 1) := by decide +kernel
theorem dd_WM_step_6 : decode cc_WM_step 6 = .ok (.getfield 58, 3) := by decide +kernel
theorem dd_WM_step_9 : decode cc_WM_step 9 = .ok (.getfield 168, 3) := by decide +kernel
theorem dd_WM_step_12 : decode cc_WM_step 12 = .ok (.if_icmp .lt 5, 3) := by decide +kernel
theorem dd_WM_step_15 : decode cc_WM_step 15 = .ok (.iconst (-1), 1) := by decide +kernel
theorem dd_WM_step_16 : decode cc_WM_step 16 = .ok (.ireturn, 1) := by decide +kernel
theorem dd_WM_step_17 : decode cc_WM_step 17 = .ok (.aload_n 0, 1) := by decide +kernel
theorem dd_WM_step_18 : decode cc_WM_step 18 = .ok (.getfield 58, 3) := by decide +kernel
theorem dd_WM_step_21 : decode cc_WM_step 21 = .ok (.getfield 171, 3) := by decide +kernel
theorem dd_WM_step_24 : decode cc_WM_step 24 = .ok (.iload_n 1, 1) := by decide +kernel
theorem dd_WM_step_25 : decode cc_WM_step 25 = .ok (.iaload, 1) := by decide +kernel
theorem dd_WM_step_26 : decode cc_WM_step 26 = .ok (.aload_n 0, 1) := by decide +kernel
theorem dd_WM_step_27 : decode cc_WM_step 27 = .ok (.getfield 58, 3) := by decide +kernel
theorem dd_WM_step_30 : decode cc_WM_step 30 = .ok (.getfield 175, 3) := by decide +kernel
theorem dd_WM_step_33 : decode cc_WM_step 33 = .ok (.iload_n 1, 1) := by decide +kernel
theorem dd_WM_step_34 : decode cc_WM_step 34 = .ok (.laload, 1) := by decide +kernel
theorem dd_WM_step_35 : decode cc_WM_step 35 = .ok (.iload_n 2, 1) := by decide +kernel
theorem dd_WM_step_36 : decode cc_WM_step 36 = .ok (.invokestatic 178, 3) := by decide +kernel
theorem dd_WM_step_39 : decode cc_WM_step 39 = .ok (.ireturn, 1) := by decide +kernel
theorem dd_WM_count_0 : decode cc_WM_count 0 = .ok (.iload_n 1, 1) := by decide +kernel
theorem dd_WM_count_1 : decode cc_WM_count 1 = .ok (.invokestatic 76, 3) := by decide +kernel
theorem dd_WM_count_4 : decode cc_WM_count 4 = .ok (.ifCond .ne 5, 3) := by decide +kernel
theorem dd_WM_count_7 : decode cc_WM_count 7 = .ok (.iconst (-1), 1) := by decide +kernel
theorem dd_WM_count_8 : decode cc_WM_count 8 = .ok (.ireturn, 1) := by decide +kernel
theorem dd_WM_count_9 : decode cc_WM_count 9 = .ok (.aload_n 0, 1) := by decide +kernel
theorem dd_WM_count_10 : decode cc_WM_count 10 = .ok (.getfield 11, 3) := by decide +kernel
theorem dd_WM_count_13 : decode cc_WM_count 13 = .ok (.iload_n 1, 1) := by decide +kernel
theorem dd_WM_count_14 : decode cc_WM_count 14 = .ok (.aaload, 1) := by decide +kernel
theorem dd_WM_count_15 : decode cc_WM_count 15 = .ok (.astore_n 3, 1) := by decide +kernel
theorem dd_WM_count_16 : decode cc_WM_count 16 = .ok (.iload_n 2, 1) := by decide +kernel
theorem dd_WM_count_17 : decode cc_WM_count 17 = .ok (.tableswitch 73 0 4 #[35, 40, 45, 50, 55], 35) := by decide +kernel
theorem dd_WM_count_52 : decode cc_WM_count 52 = .ok (.aload_n 3, 1) := by decide +kernel
theorem dd_WM_count_53 : decode cc_WM_count 53 = .ok (.getfield 120, 3) := by decide +kernel
theorem dd_WM_count_56 : decode cc_WM_count 56 = .ok (.ireturn, 1) := by decide +kernel
theorem dd_WM_count_57 : decode cc_WM_count 57 = .ok (.aload_n 3, 1) := by decide +kernel
theorem dd_WM_count_58 : decode cc_WM_count 58 = .ok (.getfield 108, 3) := by decide +kernel
theorem dd_WM_count_61 : decode cc_WM_count 61 = .ok (.ireturn, 1) := by decide +kernel
theorem dd_WM_count_62 : decode cc_WM_count 62 = .ok (.aload_n 3, 1) := by decide +kernel
theorem dd_WM_count_63 : decode cc_WM_count 63 = .ok (.invokevirtual 182, 3) := by decide +kernel
theorem dd_WM_count_66 : decode cc_WM_count 66 = .ok (.ireturn, 1) := by decide +kernel
theorem dd_WM_count_67 : decode cc_WM_count 67 = .ok (.aload_n 3, 1) := by decide +kernel
theorem dd_WM_count_68 : decode cc_WM_count 68 = .ok (.getfield 150, 3) := by decide +kernel
theorem dd_WM_count_71 : decode cc_WM_count 71 = .ok (.ireturn, 1) := by decide +kernel
theorem dd_WM_count_72 : decode cc_WM_count 72 = .ok (.aload_n 3, 1) := by decide +kernel
theorem dd_WM_count_73 : decode cc_WM_count 73 = .ok (.getfield 150, 3) := by decide +kernel
theorem dd_WM_count_76 : decode cc_WM_count 76 = .ok (.iconst (-1), 1) := by decide +kernel
theorem dd_WM_count_77 : decode cc_WM_count 77 = .ok (.if_icmp .ne 7, 3) := by decide +kernel
theorem dd_WM_count_80 : decode cc_WM_count 80 = .ok (.iconst (-1), 1) := by decide +kernel
theorem dd_WM_count_81 : decode cc_WM_count 81 = .ok (.goto 8, 3) := by decide +kernel
theorem dd_WM_count_84 : decode cc_WM_count 84 = .ok (.aload_n 3, 1) := by decide +kernel
theorem dd_WM_count_85 : decode cc_WM_count 85 = .ok (.getfield 160, 3) := by decide +kernel
theorem dd_WM_count_88 : decode cc_WM_count 88 = .ok (.l2i, 1) := by decide +kernel
theorem dd_WM_count_89 : decode cc_WM_count 89 = .ok (.ireturn, 1) := by decide +kernel
theorem dd_WM_count_90 : decode cc_WM_count 90 = .ok (.iconst (-1), 1) := by decide +kernel
theorem dd_WM_count_91 : decode cc_WM_count 91 = .ok (.ireturn, 1) := by decide +kernel
theorem dd_WM_part_0 : decode cc_WM_part 0 = .ok (.iload_n 1, 1) := by decide +kernel
theorem dd_WM_part_1 : decode cc_WM_part 1 = .ok (.invokestatic 76, 3) := by decide +kernel
theorem dd_WM_part_4 : decode cc_WM_part 4 = .ok (.ifCond .eq 20, 3) := by decide +kernel
theorem dd_WM_part_7 : decode cc_WM_part 7 = .ok (.iload_n 2, 1) := by decide +kernel
theorem dd_WM_part_8 : decode cc_WM_part 8 = .ok (.ifCond .lt 16, 3) := by decide +kernel
theorem dd_WM_part_11 : decode cc_WM_part 11 = .ok (.iload_n 2, 1) := by decide +kernel
theorem dd_WM_part_12 : decode cc_WM_part 12 = .ok (.aload_n 0, 1) := by decide +kernel
theorem dd_WM_part_13 : decode cc_WM_part 13 = .ok (.getfield 11, 3) := by decide +kernel
theorem dd_WM_part_16 : decode cc_WM_part 16 = .ok (.iload_n 1, 1) := by decide +kernel
theorem dd_WM_part_17 : decode cc_WM_part 17 = .ok (.aaload, 1) := by decide +kernel
theorem dd_WM_part_18 : decode cc_WM_part 18 = .ok (.getfield 108, 3) := by decide +kernel
theorem dd_WM_part_21 : decode cc_WM_part 21 = .ok (.if_icmp .lt 5, 3) := by decide +kernel
theorem dd_WM_part_24 : decode cc_WM_part 24 = .ok (.iconst (-1), 1) := by decide +kernel
theorem dd_WM_part_25 : decode cc_WM_part 25 = .ok (.ireturn, 1) := by decide +kernel
theorem dd_WM_part_26 : decode cc_WM_part 26 = .ok (.aload_n 0, 1) := by decide +kernel
theorem dd_WM_part_27 : decode cc_WM_part 27 = .ok (.getfield 11, 3) := by decide +kernel
theorem dd_WM_part_30 : decode cc_WM_part 30 = .ok (.iload_n 1, 1) := by decide +kernel
theorem dd_WM_part_31 : decode cc_WM_part 31 = .ok (.aaload, 1) := by decide +kernel
theorem dd_WM_part_32 : decode cc_WM_part 32 = .ok (.getfield 186, 3) := by decide +kernel
theorem dd_WM_part_35 : decode cc_WM_part 35 = .ok (.iload_n 2, 1) := by decide +kernel
theorem dd_WM_part_36 : decode cc_WM_part 36 = .ok (.iaload, 1) := by decide +kernel
theorem dd_WM_part_37 : decode cc_WM_part 37 = .ok (.aload_n 0, 1) := by decide +kernel
theorem dd_WM_part_38 : decode cc_WM_part 38 = .ok (.getfield 11, 3) := by decide +kernel
theorem dd_WM_part_41 : decode cc_WM_part 41 = .ok (.iload_n 1, 1) := by decide +kernel
theorem dd_WM_part_42 : decode cc_WM_part 42 = .ok (.aaload, 1) := by decide +kernel
theorem dd_WM_part_43 : decode cc_WM_part 43 = .ok (.getfield 187, 3) := by decide +kernel
theorem dd_WM_part_46 : decode cc_WM_part 46 = .ok (.iload_n 2, 1) := by decide +kernel
theorem dd_WM_part_47 : decode cc_WM_part 47 = .ok (.laload, 1) := by decide +kernel
theorem dd_WM_part_48 : decode cc_WM_part 48 = .ok (.iload_n 3, 1) := by decide +kernel
theorem dd_WM_part_49 : decode cc_WM_part 49 = .ok (.invokestatic 178, 3) := by decide +kernel
theorem dd_WM_part_52 : decode cc_WM_part 52 = .ok (.ireturn, 1) := by decide +kernel
theorem dd_WM_endOf_0 : decode cc_WM_endOf 0 = .ok (.aload_n 0, 1) := by decide +kernel
theorem dd_WM_endOf_1 : decode cc_WM_endOf 1 = .ok (.iload_n 1, 1) := by decide +kernel
theorem dd_WM_endOf_2 : decode cc_WM_endOf 2 = .ok (.iload_n 2, 1) := by decide +kernel
theorem dd_WM_endOf_3 : decode cc_WM_endOf 3 = .ok (.invokevirtual 84, 3) := by decide +kernel
theorem dd_WM_endOf_6 : decode cc_WM_endOf 6 = .ok (.ifCond .eq 18, 3) := by decide +kernel
theorem dd_WM_endOf_9 : decode cc_WM_endOf 9 = .ok (.aload_n 0, 1) := by decide +kernel
theorem dd_WM_endOf_10 : decode cc_WM_endOf 10 = .ok (.getfield 11, 3) := by decide +kernel
theorem dd_WM_endOf_13 : decode cc_WM_endOf 13 = .ok (.iload_n 1, 1) := by decide +kernel
theorem dd_WM_endOf_14 : decode cc_WM_endOf 14 = .ok (.aaload, 1) := by decide +kernel
theorem dd_WM_endOf_15 : decode cc_WM_endOf 15 = .ok (.getfield 96, 3) := by decide +kernel
theorem dd_WM_endOf_18 : decode cc_WM_endOf 18 = .ok (.iload_n 2, 1) := by decide +kernel
theorem dd_WM_endOf_19 : decode cc_WM_endOf 19 = .ok (.laload, 1) := by decide +kernel
theorem dd_WM_endOf_20 : decode cc_WM_endOf 20 = .ok (.l2i, 1) := by decide +kernel
theorem dd_WM_endOf_21 : decode cc_WM_endOf 21 = .ok (.goto 4, 3) := by decide +kernel
theorem dd_WM_endOf_24 : decode cc_WM_endOf 24 = .ok (.iconst (-1), 1) := by decide +kernel
theorem dd_WM_endOf_25 : decode cc_WM_endOf 25 = .ok (.ireturn, 1) := by decide +kernel
theorem dd_WM_letter_0 : decode cc_WM_letter 0 = .ok (.aload_n 0, 1) := by decide +kernel
theorem dd_WM_letter_1 : decode cc_WM_letter 1 = .ok (.getfield 65, 3) := by decide +kernel
theorem dd_WM_letter_4 : decode cc_WM_letter 4 = .ok (.iload_n 1, 1) := by decide +kernel
theorem dd_WM_letter_5 : decode cc_WM_letter 5 = .ok (.invokevirtual 204, 3) := by decide +kernel
theorem dd_WM_letter_8 : decode cc_WM_letter 8 = .ok (.ireturn, 1) := by decide +kernel
theorem dd_WM_print_0 : decode cc_WM_print 0 = .ok (.iload_n 1, 1) := by decide +kernel
theorem dd_WM_print_1 : decode cc_WM_print 1 = .ok (.invokestatic 76, 3) := by decide +kernel
theorem dd_WM_print_4 : decode cc_WM_print 4 = .ok (.ifCond .ne 5, 3) := by decide +kernel
theorem dd_WM_print_7 : decode cc_WM_print 7 = .ok (.iconst (-1), 1) := by decide +kernel
theorem dd_WM_print_8 : decode cc_WM_print 8 = .ok (.ireturn, 1) := by decide +kernel
theorem dd_WM_print_9 : decode cc_WM_print 9 = .ok (.aload_n 0, 1) := by decide +kernel
theorem dd_WM_print_10 : decode cc_WM_print 10 = .ok (.getfield 65, 3) := by decide +kernel
theorem dd_WM_print_13 : decode cc_WM_print 13 = .ok (.aload_n 0, 1) := by decide +kernel
theorem dd_WM_print_14 : decode cc_WM_print 14 = .ok (.getfield 11, 3) := by decide +kernel
theorem dd_WM_print_17 : decode cc_WM_print 17 = .ok (.iload_n 1, 1) := by decide +kernel
theorem dd_WM_print_18 : decode cc_WM_print 18 = .ok (.aaload, 1) := by decide +kernel
theorem dd_WM_print_19 : decode cc_WM_print 19 = .ok (.invokevirtual 188, 3) := by decide +kernel
theorem dd_WM_print_22 : decode cc_WM_print 22 = .ok (.aload_n 0, 1) := by decide +kernel
theorem dd_WM_print_23 : decode cc_WM_print 23 = .ok (.getfield 65, 3) := by decide +kernel
theorem dd_WM_print_26 : decode cc_WM_print 26 = .ok (.getfield 191, 3) := by decide +kernel
theorem dd_WM_print_29 : decode cc_WM_print 29 = .ok (.ireturn, 1) := by decide +kernel
theorem dd_WM_weigh_0 : decode cc_WM_weigh 0 = .ok (.iload_n 1, 1) := by decide +kernel
theorem dd_WM_weigh_1 : decode cc_WM_weigh 1 = .ok (.invokestatic 76, 3) := by decide +kernel
theorem dd_WM_weigh_4 : decode cc_WM_weigh 4 = .ok (.ifCond .ne 7, 3) := by decide +kernel
theorem dd_WM_weigh_7 : decode cc_WM_weigh 7 = .ok (.ldc2_w 144, 3) := by decide +kernel
theorem dd_WM_weigh_10 : decode cc_WM_weigh 10 = .ok (.lreturn, 1) := by decide +kernel
theorem dd_WM_weigh_11 : decode cc_WM_weigh 11 = .ok (.aload_n 0, 1) := by decide +kernel
theorem dd_WM_weigh_12 : decode cc_WM_weigh 12 = .ok (.getfield 51, 3) := by decide +kernel
theorem dd_WM_weigh_15 : decode cc_WM_weigh 15 = .ok (.aload_n 0, 1) := by decide +kernel
theorem dd_WM_weigh_16 : decode cc_WM_weigh 16 = .ok (.getfield 11, 3) := by decide +kernel
theorem dd_WM_weigh_19 : decode cc_WM_weigh 19 = .ok (.iload_n 1, 1) := by decide +kernel
theorem dd_WM_weigh_20 : decode cc_WM_weigh 20 = .ok (.aaload, 1) := by decide +kernel
theorem dd_WM_weigh_21 : decode cc_WM_weigh 21 = .ok (.iload_n 2, 1) := by decide +kernel
theorem dd_WM_weigh_22 : decode cc_WM_weigh 22 = .ok (.iload_n 3, 1) := by decide +kernel
theorem dd_WM_weigh_23 : decode cc_WM_weigh 23 = .ok (.invokevirtual 146, 3) := by decide +kernel
theorem dd_WM_weigh_26 : decode cc_WM_weigh 26 = .ok (.lreturn, 1) := by decide +kernel
theorem dd_WM_best_0 : decode cc_WM_best 0 = .ok (.iload_n 1, 1) := by decide +kernel
theorem dd_WM_best_1 : decode cc_WM_best 1 = .ok (.invokestatic 76, 3) := by decide +kernel
theorem dd_WM_best_4 : decode cc_WM_best 4 = .ok (.ifCond .ne 7, 3) := by decide +kernel
theorem dd_WM_best_7 : decode cc_WM_best 7 = .ok (.ldc2_w 144, 3) := by decide +kernel
theorem dd_WM_best_10 : decode cc_WM_best 10 = .ok (.lreturn, 1) := by decide +kernel
theorem dd_WM_best_11 : decode cc_WM_best 11 = .ok (.aload_n 0, 1) := by decide +kernel
theorem dd_WM_best_12 : decode cc_WM_best 12 = .ok (.getfield 11, 3) := by decide +kernel
theorem dd_WM_best_15 : decode cc_WM_best 15 = .ok (.iload_n 1, 1) := by decide +kernel
theorem dd_WM_best_16 : decode cc_WM_best 16 = .ok (.aaload, 1) := by decide +kernel
theorem dd_WM_best_17 : decode cc_WM_best 17 = .ok (.astore_n 2, 1) := by decide +kernel
theorem dd_WM_best_18 : decode cc_WM_best 18 = .ok (.aload_n 0, 1) := by decide +kernel
theorem dd_WM_best_19 : decode cc_WM_best 19 = .ok (.getfield 44, 3) := by decide +kernel
theorem dd_WM_best_22 : decode cc_WM_best 22 = .ok (.aload_n 2, 1) := by decide +kernel
theorem dd_WM_best_23 : decode cc_WM_best 23 = .ok (.invokevirtual 134, 3) := by decide +kernel
theorem dd_WM_best_26 : decode cc_WM_best 26 = .ok (.aload_n 2, 1) := by decide +kernel
theorem dd_WM_best_27 : decode cc_WM_best 27 = .ok (.getfield 150, 3) := by decide +kernel
theorem dd_WM_best_30 : decode cc_WM_best 30 = .ok (.iconst (-1), 1) := by decide +kernel
theorem dd_WM_best_31 : decode cc_WM_best 31 = .ok (.if_icmp .eq 17, 3) := by decide +kernel
theorem dd_WM_best_34 : decode cc_WM_best 34 = .ok (.aload_n 0, 1) := by decide +kernel
theorem dd_WM_best_35 : decode cc_WM_best 35 = .ok (.getfield 44, 3) := by decide +kernel
theorem dd_WM_best_38 : decode cc_WM_best 38 = .ok (.aload_n 2, 1) := by decide +kernel
theorem dd_WM_best_39 : decode cc_WM_best 39 = .ok (.getfield 150, 3) := by decide +kernel
theorem dd_WM_best_42 : decode cc_WM_best 42 = .ok (.invokevirtual 153, 3) := by decide +kernel
theorem dd_WM_best_45 : decode cc_WM_best 45 = .ok (.ifCond .ne 7, 3) := by decide +kernel
theorem dd_WM_best_48 : decode cc_WM_best 48 = .ok (.ldc2_w 144, 3) := by decide +kernel
theorem dd_WM_best_51 : decode cc_WM_best 51 = .ok (.lreturn, 1) := by decide +kernel
theorem dd_WM_best_52 : decode cc_WM_best 52 = .ok (.aload_n 0, 1) := by decide +kernel
theorem dd_WM_best_53 : decode cc_WM_best 53 = .ok (.getfield 58, 3) := by decide +kernel
theorem dd_WM_best_56 : decode cc_WM_best 56 = .ok (.aload_n 2, 1) := by decide +kernel
theorem dd_WM_best_57 : decode cc_WM_best 57 = .ok (.aload_n 0, 1) := by decide +kernel
theorem dd_WM_best_58 : decode cc_WM_best 58 = .ok (.getfield 44, 3) := by decide +kernel
theorem dd_WM_best_61 : decode cc_WM_best 61 = .ok (.invokevirtual 156, 3) := by decide +kernel
theorem dd_WM_best_64 : decode cc_WM_best 64 = .ok (.aload_n 2, 1) := by decide +kernel
theorem dd_WM_best_65 : decode cc_WM_best 65 = .ok (.getfield 160, 3) := by decide +kernel
theorem dd_WM_best_68 : decode cc_WM_best 68 = .ok (.aload_n 0, 1) := by decide +kernel
theorem dd_WM_best_69 : decode cc_WM_best 69 = .ok (.getfield 44, 3) := by decide +kernel
theorem dd_WM_best_72 : decode cc_WM_best 72 = .ok (.aload_n 2, 1) := by decide +kernel
theorem dd_WM_best_73 : decode cc_WM_best 73 = .ok (.getfield 150, 3) := by decide +kernel
theorem dd_WM_best_76 : decode cc_WM_best 76 = .ok (.invokevirtual 164, 3) := by decide +kernel
theorem dd_WM_best_79 : decode cc_WM_best 79 = .ok (.ladd, 1) := by decide +kernel
theorem dd_WM_best_80 : decode cc_WM_best 80 = .ok (.lreturn, 1) := by decide +kernel
theorem dd_WM_feed_0 : decode cc_WM_feed 0 = .ok (.iload_n 3, 1) := by decide +kernel
theorem dd_WM_feed_1 : decode cc_WM_feed 1 = .ok (.ifCond .ne 13, 3) := by decide +kernel
theorem dd_WM_feed_4 : decode cc_WM_feed 4 = .ok (.aload_n 0, 1) := by decide +kernel
theorem dd_WM_feed_5 : decode cc_WM_feed 5 = .ok (.getfield 65, 3) := by decide +kernel
theorem dd_WM_feed_8 : decode cc_WM_feed 8 = .ok (.iconst 0, 1) := by decide +kernel
theorem dd_WM_feed_9 : decode cc_WM_feed 9 = .ok (.putfield 191, 3) := by decide +kernel
theorem dd_WM_feed_12 : decode cc_WM_feed 12 = .ok (.iconst 0, 1) := by decide +kernel
theorem dd_WM_feed_13 : decode cc_WM_feed 13 = .ok (.ireturn, 1) := by decide +kernel
theorem dd_WM_feed_14 : decode cc_WM_feed 14 = .ok (.iload_n 3, 1) := by decide +kernel
theorem dd_WM_feed_15 : decode cc_WM_feed 15 = .ok (.ifCond .lt 32, 3) := by decide +kernel
theorem dd_WM_feed_18 : decode cc_WM_feed 18 = .ok (.iload_n 3, 1) := by decide +kernel
theorem dd_WM_feed_19 : decode cc_WM_feed 19 = .ok (.bipush 8, 2) := by decide +kernel
theorem dd_WM_feed_21 : decode cc_WM_feed 21 = .ok (.if_icmp .gt 26, 3) := by decide +kernel
theorem dd_WM_feed_24 : decode cc_WM_feed 24 = .ok (.aload_n 0, 1) := by decide +kernel
theorem dd_WM_feed_25 : decode cc_WM_feed 25 = .ok (.getfield 65, 3) := by decide +kernel
theorem dd_WM_feed_28 : decode cc_WM_feed 28 = .ok (.getfield 191, 3) := by decide +kernel
theorem dd_WM_feed_31 : decode cc_WM_feed 31 = .ok (.iload_n 3, 1) := by decide +kernel
theorem dd_WM_feed_32 : decode cc_WM_feed 32 = .ok (.iadd, 1) := by decide +kernel
theorem dd_WM_feed_33 : decode cc_WM_feed 33 = .ok (.sipush 1600, 3) := by decide +kernel
theorem dd_WM_feed_36 : decode cc_WM_feed 36 = .ok (.if_icmp .gt 11, 3) := by decide +kernel
theorem dd_WM_feed_39 : decode cc_WM_feed 39 = .ok (.lload_n 1, 1) := by decide +kernel
theorem dd_WM_feed_40 : decode cc_WM_feed 40 = .ok (.iload_n 3, 1) := by decide +kernel
theorem dd_WM_feed_41 : decode cc_WM_feed 41 = .ok (.invokestatic 195, 3) := by decide +kernel
theorem dd_WM_feed_44 : decode cc_WM_feed 44 = .ok (.ifCond .ne 5, 3) := by decide +kernel
theorem dd_WM_feed_47 : decode cc_WM_feed 47 = .ok (.iconst (-1), 1) := by decide +kernel
theorem dd_WM_feed_48 : decode cc_WM_feed 48 = .ok (.ireturn, 1) := by decide +kernel
theorem dd_WM_feed_49 : decode cc_WM_feed 49 = .ok (.bipush 8, 2) := by decide +kernel
theorem dd_WM_feed_51 : decode cc_WM_feed 51 = .ok (.iload_n 3, 1) := by decide +kernel
theorem dd_WM_feed_52 : decode cc_WM_feed 52 = .ok (.iconst 1, 1) := by decide +kernel
theorem dd_WM_feed_53 : decode cc_WM_feed 53 = .ok (.isub, 1) := by decide +kernel
theorem dd_WM_feed_54 : decode cc_WM_feed 54 = .ok (.imul, 1) := by decide +kernel
theorem dd_WM_feed_55 : decode cc_WM_feed 55 = .ok (.istore 4, 2) := by decide +kernel
theorem dd_WM_feed_57 : decode cc_WM_feed 57 = .ok (.iload 4, 2) := by decide +kernel
theorem dd_WM_feed_59 : decode cc_WM_feed 59 = .ok (.ifCond .lt 25, 3) := by decide +kernel
theorem dd_WM_feed_62 : decode cc_WM_feed 62 = .ok (.aload_n 0, 1) := by decide +kernel
theorem dd_WM_feed_63 : decode cc_WM_feed 63 = .ok (.getfield 65, 3) := by decide +kernel
theorem dd_WM_feed_66 : decode cc_WM_feed 66 = .ok (.lload_n 1, 1) := by decide +kernel
theorem dd_WM_feed_67 : decode cc_WM_feed 67 = .ok (.iload 4, 2) := by decide +kernel
theorem dd_WM_feed_69 : decode cc_WM_feed 69 = .ok (.lshr, 1) := by decide +kernel
theorem dd_WM_feed_70 : decode cc_WM_feed 70 = .ok (.ldc2_w 199, 3) := by decide +kernel
theorem dd_WM_feed_73 : decode cc_WM_feed 73 = .ok (.land, 1) := by decide +kernel
theorem dd_WM_feed_74 : decode cc_WM_feed 74 = .ok (.l2i, 1) := by decide +kernel
theorem dd_WM_feed_75 : decode cc_WM_feed 75 = .ok (.invokevirtual 201, 3) := by decide +kernel
theorem dd_WM_feed_78 : decode cc_WM_feed 78 = .ok (.iinc 4 (-8), 3) := by decide +kernel
theorem dd_WM_feed_81 : decode cc_WM_feed 81 = .ok (.goto (-24), 3) := by decide +kernel
theorem dd_WM_feed_84 : decode cc_WM_feed 84 = .ok (.aload_n 0, 1) := by decide +kernel
theorem dd_WM_feed_85 : decode cc_WM_feed 85 = .ok (.getfield 65, 3) := by decide +kernel
theorem dd_WM_feed_88 : decode cc_WM_feed 88 = .ok (.getfield 191, 3) := by decide +kernel
theorem dd_WM_feed_91 : decode cc_WM_feed 91 = .ok (.ireturn, 1) := by decide +kernel
/-! THE CLASS'S CALLS -/
theorem ix_nle {m : Nat} {x : Int32} (hm : m + 1 < 2 ^ 31) (h : ix (m + 1) x = none) (h0 : ¬ x < 0) : ¬ x ≤ nI m := fun e => by
  rcases ix_none h with h | h
  · exact h0 h
  · exact absurd (Int32.le_trans h e) (nI_ge (by omega) hm)
theorem ix_nlt {m : Nat} {x : Int32} (h : ix m x = none) (h0 : ¬ x < 0) : ¬ x < nI m := fun e => by
  rcases ix_none h with h | h
  · exact h0 h
  · exact absurd e (Int32.not_lt.mpr h)
theorem on_ri {o : Option Nat} : (am_e o).toInt32 = on_r o := by
  cases o with
  | none => rfl
  | some w => exact lN_i w
set_option maxRecDepth 100000 in
set_option maxHeartbeats 4000000 in
theorem ct_WM_fresh (l : Launch) (D : va_G) (dA : Nat → ClassId) (ad : Nat → Nat) (mm : Nat → gm_V) (r : Nat → va_E) {σ : sg} (hc : cs dA ad mm r σ) (hσ : sg_ok σ) (s n : Int32) : gx_Ct l D dA yy_WM_fresh cc_WM_fresh 3 (some .boolean) 2 0 0 [.ref (ad 0), .int s, .int n] (gx_w ad (gm_h dA ad mm r)) (fun v w => ∃ mm2 r2, w = gx_w ad (gm_h dA ad mm2 r2) ∧ cs dA ad mm2 r2 (o_fresh σ s n).2 ∧ (∀ k, 43 ≤ k → r2 k = r k) ∧ v = some (.int (o_fresh σ s n).1)) := by
  refine gx_of (by decide) (Nat.le_of_ble_eq_true rfl) (fun K C _ _ => ?_)
  obtain ⟨π, f, hπ, hc0, hc1, hf, hM, hR⟩ := cs_get hc
  have hπ4 := hπ.1
  refine gx_iload_n C 1 dd_WM_fresh_0 (kk := ?_)
  refine gx_callS C (ct_WM_isSlot (gx_l K) D dA _ s) me_WM_isSlot ml_WM_76 ms_WM_isSlot dd_WM_fresh_1 (kk := fun v w hq => ?_)
  obtain ⟨rfl, rfl⟩ := hq
  refine gx_topi _ ix_b ?_
  rcases hi : ix 4 s with _ | i
  · refine gx_if_eq C 17 dd_WM_fresh_4 (fun h4 => ?_) (fun h4 => absurd rfl h4)
    refine gx_iconst (v := nI 0) C dd_WM_fresh_17 (kk := ?_)
    refine gx_zret C dd_WM_fresh_18 (by first | rfl | exact fb_nar) ?_
    have hsp : o_fresh σ s n = (nI 0, σ) := by
      unfold o_fresh
      simp only [hi]
    rw [hsp]
    exact ⟨mm, r, rfl, hc, fun _ _ => rfl, rfl⟩
  · obtain ⟨hi4, rfl⟩ := ix_of (by decide) hi
    refine gx_if_eq C 17 dd_WM_fresh_4 (fun h4 => absurd (show true = false from fb_0.mp h4) (by decide)) (fun h4 => ?_)
    rcases hn : ix 17 n with _ | m
    · refine gx_iload_n C 2 dd_WM_fresh_7 (kk := ?_)
      refine gx_if_lt C 17 dd_WM_fresh_8 (fun h8 => ?_) (fun h8 => ?_)
      · refine gx_iconst (v := nI 0) C dd_WM_fresh_17 (kk := ?_)
        refine gx_zret C dd_WM_fresh_18 (by first | rfl | exact fb_nar) ?_
        have hsp : o_fresh σ (nI i) n = (nI 0, σ) := by
          unfold o_fresh
          simp only [hi, hn]
        rw [hsp]
        exact ⟨mm, r, rfl, hc, fun _ _ => rfl, rfl⟩
      · refine gx_iload_n C 2 dd_WM_fresh_11 (kk := ?_)
        refine gx_bipush (v := nI 16) C dd_WM_fresh_12 (kk := ?_)
        refine gx_icmp_le C 19 dd_WM_fresh_14 (fun h14 => absurd h14 (ix_nle (by decide) hn h8)) (fun h14 => ?_)
        refine gx_iconst (v := nI 0) C dd_WM_fresh_17 (kk := ?_)
        refine gx_zret C dd_WM_fresh_18 (by first | rfl | exact fb_nar) ?_
        have hsp : o_fresh σ (nI i) n = (nI 0, σ) := by
          unfold o_fresh
          simp only [hi, hn]
        rw [hsp]
        exact ⟨mm, r, rfl, hc, fun _ _ => rfl, rfl⟩
    · obtain ⟨hm, rfl⟩ := ix_of (by decide) hn
      refine gx_iload_n C 2 dd_WM_fresh_7 (kk := ?_)
      refine gx_if_lt C 17 dd_WM_fresh_8 (fun h8 => absurd h8 (nI_pos (by omega))) (fun h8 => ?_)
      refine gx_iload_n C 2 dd_WM_fresh_11 (kk := ?_)
      refine gx_bipush (v := nI 16) C dd_WM_fresh_12 (kk := ?_)
      refine gx_icmp_le C 19 dd_WM_fresh_14 (fun h14 => ?_) (fun h14 => absurd (nI_le (a := m) (b := 16) (by omega) (by decide)) h14)
      refine gx_aload_n C 0 dd_WM_fresh_19 (kk := ?_)
      refine gx_get C fd_WM_11 (gm_r hc0) dd_WM_fresh_20 (kk := ?_)
      refine gx_iload_n C 1 dd_WM_fresh_23 (kk := ?_)
      refine gz_slot C hc1 hf dd_WM_fresh_24 hi4 (kk := ?_)
      refine gx_iload_n C 2 dd_WM_fresh_25 (kk := ?_)
      refine gx_callV C (ct_Ma_clear (gx_l K) D dA ad mm r (i := π i) (hπ.1 i (by omega)) m) me_Ma_clear ml_WM_80 mn_Ma_clear _ (gx_w_at (by have := hπ.1 i (by omega); omega) (gm_at (j := 0) (hπ.1 i (by omega)) (by decide))) rfl dd_WM_fresh_26 (kk := fun v w hq => ?_)
      obtain ⟨rfl, M2, rfl, hM2⟩ := hq
      refine gx_iconst (v := nI 1) C dd_WM_fresh_29 (kk := ?_)
      refine gx_zret C dd_WM_fresh_30 (by first | rfl | exact fb_nar) ?_
      have hsp : o_fresh σ (nI i) (nI m) = (nI 1, o_set σ i (m, none, (fun _ => none), [])) := by
        unfold o_fresh
        simp only [hi, hn]
      rw [hsp]
      exact ⟨_, r, rfl, cs_put hπ hc0 hc1 hf (cs_m1 hπ hi4 hM hM2) (cs_R_s hR), fun _ _ => rfl, rfl⟩
set_option maxRecDepth 100000 in
set_option maxHeartbeats 4000000 in
theorem ct_WM_start (l : Launch) (D : va_G) (dA : Nat → ClassId) (ad : Nat → Nat) (mm : Nat → gm_V) (r : Nat → va_E) {σ : sg} (hc : cs dA ad mm r σ) (hσ : sg_ok σ) (s q w0 : Int32) : gx_Ct l D dA yy_WM_start cc_WM_start 4 (some .boolean) 2 0 0 [.ref (ad 0), .int s, .int q, .int w0] (gx_w ad (gm_h dA ad mm r)) (fun v w => ∃ mm2 r2, w = gx_w ad (gm_h dA ad mm2 r2) ∧ cs dA ad mm2 r2 (o_start σ s q w0).2 ∧ (∀ k, 43 ≤ k → r2 k = r k) ∧ v = some (.int (o_start σ s q w0).1)) := by
  refine gx_of (by decide) (Nat.le_of_ble_eq_true rfl) (fun K C _ _ => ?_)
  obtain ⟨π, f, hπ, hc0, hc1, hf, hM, hR⟩ := cs_get hc
  have hπ4 := hπ.1
  refine gx_aload_n C 0 dd_WM_start_0 (kk := ?_)
  refine gx_iload_n C 1 dd_WM_start_1 (kk := ?_)
  refine gx_iload_n C 2 dd_WM_start_2 (kk := ?_)
  refine gx_callV C (ct_WM_isState (gx_l K) D dA ad mm r hc hσ s q) me_WM_isState ml_WM_84 mn_WM_isState _ (gx_w_at (by decide) (gm_r hc0)) rfl dd_WM_start_3 (kk := fun v w hq => ?_)
  obtain ⟨rfl, rfl⟩ := hq
  rcases hx : o_is σ s q with _ | x
  · refine gx_if_eq C 17 dd_WM_start_6 (fun h6 => ?_) (fun h6 => absurd rfl h6)
    refine gx_iconst (v := nI 0) C dd_WM_start_17 (kk := ?_)
    refine gx_zret C dd_WM_start_18 (by first | rfl | exact fb_nar) ?_
    have hsp : o_start σ s q w0 = (nI 0, σ) := by
      unfold o_start
      simp only [hx]
    rw [hsp]
    exact ⟨mm, r, rfl, hc, fun _ _ => rfl, rfl⟩
  · obtain ⟨hx4, rfl, hxq, rfl⟩ := o_is_of hσ hx
    have hok := hσ.1 x.1 hx4
    have hn16 := hok.1.1
    refine gx_if_eq C 17 dd_WM_start_6 (fun h6 => absurd (show true = false from fb_0.mp h6) (by decide)) (fun h6 => ?_)
    refine gx_iload_n C 3 dd_WM_start_9 (kk := ?_)
    refine gx_i2l C dd_WM_start_10 (w := w0.toInt64) (hv := rfl) (kk := ?_)
    refine gx_callS C (ct_WM_isWeight (gx_l K) D dA _ w0.toInt64) me_WM_isWeight ml_WM_88 ms_WM_isWeight dd_WM_start_11 (kk := fun v w hq => ?_)
    obtain ⟨rfl, rfl⟩ := hq
    refine gx_topi _ (ix_w w0) ?_
    rcases hw : ix 1000000001 w0 with _ | m
    · refine gx_if_ne C 19 dd_WM_start_14 (fun h14 => absurd rfl h14) (fun h14 => ?_)
      refine gx_iconst (v := nI 0) C dd_WM_start_17 (kk := ?_)
      refine gx_zret C dd_WM_start_18 (by first | rfl | exact fb_nar) ?_
      have hsp : o_start σ (nI x.1) (nI x.2) w0 = (nI 0, σ) := by
        unfold o_start
        simp only [hx, hw]
      rw [hsp]
      exact ⟨mm, r, rfl, hc, fun _ _ => rfl, rfl⟩
    · obtain ⟨hm, rfl⟩ := ix_of (by decide) hw
      refine gx_if_ne C 19 dd_WM_start_14 (fun h14 => ?_) (fun h14 => absurd (show true = false from fb_0.mp h14) (by decide))
      refine gx_aload_n C 0 dd_WM_start_19 (kk := ?_)
      refine gx_get C fd_WM_11 (gm_r hc0) dd_WM_start_20 (kk := ?_)
      refine gx_iload_n C 1 dd_WM_start_23 (kk := ?_)
      refine gz_slot C hc1 hf dd_WM_start_24 hx4 (kk := ?_)
      refine gx_iload_n C 2 dd_WM_start_25 (kk := ?_)
      refine gx_iload_n C 3 dd_WM_start_26 (kk := ?_)
      refine gx_i2l C dd_WM_start_27 (w := (nI m).toInt64) (hv := rfl) (kk := ?_)
      refine gx_callV C (ct_Ma_setStart (gx_l K) D dA ad mm r (i := π x.1) (hπ.1 x.1 (by omega)) (nI x.2) (nI m).toInt64) me_Ma_setStart ml_WM_92 mn_Ma_setStart _ (gx_w_at (by have := hπ.1 x.1 (by omega); omega) (gm_at (j := 0) (hπ.1 x.1 (by omega)) (by decide))) rfl dd_WM_start_28 (kk := fun v w hq => ?_)
      obtain ⟨rfl, rfl⟩ := hq
      refine gx_iconst (v := nI 1) C dd_WM_start_31 (kk := ?_)
      refine gx_zret C dd_WM_start_32 (by first | rfl | exact fb_nar) ?_
      have hsp : o_start σ (nI x.1) (nI x.2) (nI m) = (nI 1, o_set σ x.1 (am_n (σ.1 x.1), some (x.2, m), am_en (σ.1 x.1), am_ar (σ.1 x.1))) := by
        unfold o_start
        simp only [hx, hw]
      rw [hsp]
      refine ⟨_, r, rfl, cs_put hπ hc0 hc1 hf (cs_m1 hπ hx4 hM ?_) (cs_R_s hR), fun _ _ => rfl, rfl⟩
      exact ⟨(hM x.1 hx4).1, ⟨rfl, nI_l (by omega)⟩, (hM x.1 hx4).2.2⟩
theorem am_is_en {M : gm_V} {a : am_T} {q : Nat} {o : Option Nat} {z : Int64} (h : gm_is M a) (hz : z = am_e o) : gm_is (gm_n M, gm_q M, gm_s M, vp_updL (gm_e M) q z, gm_c M, gm_k M, gm_g M) (am_n a, am_st a, va_up (am_en a) q o, am_ar a) := by
  refine ⟨h.1, h.2.1, fun j hj => ?_, h.2.2.2⟩
  show vp_updL (gm_e M) q z j = am_e (va_up (am_en a) q o j)
  by_cases hjq : j = q
  · subst hjq
    rw [pk_uLs, gm_us, hz]
  · rw [pk_uLn hjq, gm_un hjq]
    exact h.2.2.1 j hj
set_option maxRecDepth 100000 in
set_option maxHeartbeats 4000000 in
theorem ct_WM_end (l : Launch) (D : va_G) (dA : Nat → ClassId) (ad : Nat → Nat) (mm : Nat → gm_V) (r : Nat → va_E) {σ : sg} (hc : cs dA ad mm r σ) (hσ : sg_ok σ) (s q w0 : Int32) : gx_Ct l D dA yy_WM_end cc_WM_end 4 (some .boolean) 2 0 0 [.ref (ad 0), .int s, .int q, .int w0] (gx_w ad (gm_h dA ad mm r)) (fun v w => ∃ mm2 r2, w = gx_w ad (gm_h dA ad mm2 r2) ∧ cs dA ad mm2 r2 (o_end σ s q w0).2 ∧ (∀ k, 43 ≤ k → r2 k = r k) ∧ v = some (.int (o_end σ s q w0).1)) := by
  refine gx_of (by decide) (Nat.le_of_ble_eq_true rfl) (fun K C _ _ => ?_)
  obtain ⟨π, f, hπ, hc0, hc1, hf, hM, hR⟩ := cs_get hc
  have hπ4 := hπ.1
  refine gx_aload_n C 0 dd_WM_end_0 (kk := ?_)
  refine gx_iload_n C 1 dd_WM_end_1 (kk := ?_)
  refine gx_iload_n C 2 dd_WM_end_2 (kk := ?_)
  refine gx_callV C (ct_WM_isState (gx_l K) D dA ad mm r hc hσ s q) me_WM_isState ml_WM_84 mn_WM_isState _ (gx_w_at (by decide) (gm_r hc0)) rfl dd_WM_end_3 (kk := fun v w hq => ?_)
  obtain ⟨rfl, rfl⟩ := hq
  rcases hx : o_is σ s q with _ | x
  · refine gx_if_eq C 22 dd_WM_end_6 (fun h6 => ?_) (fun h6 => absurd rfl h6)
    refine gx_iconst (v := nI 0) C dd_WM_end_22 (kk := ?_)
    refine gx_zret C dd_WM_end_23 (by first | rfl | exact fb_nar) ?_
    have hsp : o_end σ s q w0 = (nI 0, σ) := by
      unfold o_end
      simp only [hx]
    rw [hsp]
    exact ⟨mm, r, rfl, hc, fun _ _ => rfl, rfl⟩
  · obtain ⟨hx4, rfl, hxq, rfl⟩ := o_is_of hσ hx
    have hok := hσ.1 x.1 hx4
    have hn16 := hok.1.1
    refine gx_if_eq C 22 dd_WM_end_6 (fun h6 => absurd (show true = false from fb_0.mp h6) (by decide)) (fun h6 => ?_)
    by_cases hw1 : w0 = -1
    · subst hw1
      refine gx_iload_n C 3 dd_WM_end_9 (kk := ?_)
      refine gx_iconst (v := -1) C dd_WM_end_10 (kk := ?_)
      refine gx_icmp_eq C 24 dd_WM_end_11 (fun h11 => ?_) (fun h11 => absurd rfl h11)
      refine gx_aload_n C 0 dd_WM_end_24 (kk := ?_)
      refine gx_get C fd_WM_11 (gm_r hc0) dd_WM_end_25 (kk := ?_)
      refine gx_iload_n C 1 dd_WM_end_28 (kk := ?_)
      refine gz_slot C hc1 hf dd_WM_end_29 hx4 (kk := ?_)
      refine gm_get C fd_WM_96 (hπ.1 x.1 (by omega)) dd_WM_end_30 (kk := ?_)
      refine gx_iload_n C 2 dd_WM_end_33 (kk := ?_)
      refine gx_iload_n C 3 dd_WM_end_34 (kk := ?_)
      refine gx_i2l C dd_WM_end_35 (w := (-1).toInt64) (hv := rfl) (kk := ?_)
      refine gm_sn_eV C (hπ.1 x.1 (by omega)) dd_WM_end_36 (by omega) (kk := fun m2 hm2 hn2 hu2 => ?_)
      refine gx_iconst (v := nI 1) C dd_WM_end_37 (kk := ?_)
      refine gx_zret C dd_WM_end_38 (by first | rfl | exact fb_nar) ?_
      have hoe : o_e (-1) = some none := rfl
      have hsp : o_end σ (nI x.1) (nI x.2) (-1) = (nI 1, o_set σ x.1 (am_n (σ.1 x.1), am_st (σ.1 x.1), va_up (am_en (σ.1 x.1)) x.2 none, am_ar (σ.1 x.1))) := by
        unfold o_end
        simp only [hx, hoe]
      rw [hsp]
      rw [hu2]
      refine ⟨_, r, rfl, cs_put hπ hc0 hc1 hf (cs_m1 hπ hx4 hM ?_) (cs_R_s hR), fun _ _ => rfl, rfl⟩
      rw [hm2]
      exact am_is_en (hM x.1 hx4) rfl
    · refine gx_iload_n C 3 dd_WM_end_9 (kk := ?_)
      refine gx_iconst (v := -1) C dd_WM_end_10 (kk := ?_)
      refine gx_icmp_eq C 24 dd_WM_end_11 (fun h11 => absurd h11 hw1) (fun h11 => ?_)
      refine gx_iload_n C 3 dd_WM_end_14 (kk := ?_)
      refine gx_i2l C dd_WM_end_15 (w := w0.toInt64) (hv := rfl) (kk := ?_)
      refine gx_callS C (ct_WM_isWeight (gx_l K) D dA _ w0.toInt64) me_WM_isWeight ml_WM_88 ms_WM_isWeight dd_WM_end_16 (kk := fun v w hq => ?_)
      obtain ⟨rfl, rfl⟩ := hq
      refine gx_topi _ (ix_w w0) ?_
      rcases hw : ix 1000000001 w0 with _ | m
      · refine gx_if_ne C 24 dd_WM_end_19 (fun h19 => absurd rfl h19) (fun h19 => ?_)
        refine gx_iconst (v := nI 0) C dd_WM_end_22 (kk := ?_)
        refine gx_zret C dd_WM_end_23 (by first | rfl | exact fb_nar) ?_
        have hoe : o_e w0 = none := by
          unfold o_e
          simp only [hw, if_neg hw1]
        have hsp : o_end σ (nI x.1) (nI x.2) w0 = (nI 0, σ) := by
          unfold o_end
          simp only [hx, hoe]
        rw [hsp]
        exact ⟨mm, r, rfl, hc, fun _ _ => rfl, rfl⟩
      · obtain ⟨hm, rfl⟩ := ix_of (by decide) hw
        refine gx_if_ne C 24 dd_WM_end_19 (fun h19 => ?_) (fun h19 => absurd (show true = false from fb_0.mp h19) (by decide))
        refine gx_aload_n C 0 dd_WM_end_24 (kk := ?_)
        refine gx_get C fd_WM_11 (gm_r hc0) dd_WM_end_25 (kk := ?_)
        refine gx_iload_n C 1 dd_WM_end_28 (kk := ?_)
        refine gz_slot C hc1 hf dd_WM_end_29 hx4 (kk := ?_)
        refine gm_get C fd_WM_96 (hπ.1 x.1 (by omega)) dd_WM_end_30 (kk := ?_)
        refine gx_iload_n C 2 dd_WM_end_33 (kk := ?_)
        refine gx_iload_n C 3 dd_WM_end_34 (kk := ?_)
        refine gx_i2l C dd_WM_end_35 (w := (nI m).toInt64) (hv := rfl) (kk := ?_)
        refine gm_sn_eV C (hπ.1 x.1 (by omega)) dd_WM_end_36 (by omega) (kk := fun m2 hm2 hn2 hu2 => ?_)
        refine gx_iconst (v := nI 1) C dd_WM_end_37 (kk := ?_)
        refine gx_zret C dd_WM_end_38 (by first | rfl | exact fb_nar) ?_
        have hoe : o_e (nI m) = some (some m) := by
          unfold o_e
          simp only [hw, if_neg hw1]
        have hsp : o_end σ (nI x.1) (nI x.2) (nI m) = (nI 1, o_set σ x.1 (am_n (σ.1 x.1), am_st (σ.1 x.1), va_up (am_en (σ.1 x.1)) x.2 (some m), am_ar (σ.1 x.1))) := by
          unfold o_end
          simp only [hx, hoe]
        rw [hsp]
        rw [hu2]
        refine ⟨_, r, rfl, cs_put hπ hc0 hc1 hf (cs_m1 hπ hx4 hM ?_) (cs_R_s hR), fun _ _ => rfl, rfl⟩
        rw [hm2]
        exact am_is_en (hM x.1 hx4) (nI_l (by omega))
set_option maxRecDepth 100000 in
set_option maxHeartbeats 4000000 in
theorem ct_WM_arc (l : Launch) (D : va_G) (dA : Nat → ClassId) (ad : Nat → Nat) (mm : Nat → gm_V) (r : Nat → va_E) {σ : sg} (hc : cs dA ad mm r σ) (hσ : sg_ok σ) (s f0 t0 g0 w0 : Int32) : gx_Ct l D dA yy_WM_arc cc_WM_arc 7 (some .int) 2 0 0 [.ref (ad 0), .int s, .int f0, .int t0, .int g0, .int w0] (gx_w ad (gm_h dA ad mm r)) (fun v w => ∃ mm2 r2, w = gx_w ad (gm_h dA ad mm2 r2) ∧ cs dA ad mm2 r2 (o_arc σ s f0 t0 g0 w0).2 ∧ (∀ k, 43 ≤ k → r2 k = r k) ∧ v = some (.int (o_arc σ s f0 t0 g0 w0).1)) := by
  refine gx_of (by decide) (Nat.le_of_ble_eq_true rfl) (fun K C _ _ => ?_)
  obtain ⟨π, f, hπ, hc0, hc1, hf, hM, hR⟩ := cs_get hc
  have hπ4 := hπ.1
  refine gx_aload_n C 0 dd_WM_arc_0 (kk := ?_)
  refine gx_iload_n C 1 dd_WM_arc_1 (kk := ?_)
  refine gx_iload_n C 2 dd_WM_arc_2 (kk := ?_)
  refine gx_callV C (ct_WM_isState (gx_l K) D dA ad mm r hc hσ s f0) me_WM_isState ml_WM_84 mn_WM_isState _ (gx_w_at (by decide) (gm_r hc0)) rfl dd_WM_arc_3 (kk := fun v w hq => ?_)
  obtain ⟨rfl, rfl⟩ := hq
  rcases hx : o_is σ s f0 with _ | x
  · refine gx_if_eq C 27 dd_WM_arc_6 (fun h6 => ?_) (fun h6 => absurd rfl h6)
    refine gx_iconst (v := -1) C dd_WM_arc_27 (kk := ?_)
    refine gx_iret C dd_WM_arc_28 ?_
    have hsp : o_arc σ s f0 t0 g0 w0 = (-1, σ) := by
      unfold o_arc
      simp only [hx]
    rw [hsp]
    exact ⟨mm, r, rfl, hc, fun _ _ => rfl, rfl⟩
  · obtain ⟨hx4, rfl, hxq, rfl⟩ := o_is_of hσ hx
    have hok := hσ.1 x.1 hx4
    have hn16 := hok.1.1
    refine gx_if_eq C 27 dd_WM_arc_6 (fun h6 => absurd (show true = false from fb_0.mp h6) (by decide)) (fun h6 => ?_)
    refine gx_aload_n C 0 dd_WM_arc_9 (kk := ?_)
    refine gx_iload_n C 1 dd_WM_arc_10 (kk := ?_)
    refine gx_iload_n C 3 dd_WM_arc_11 (kk := ?_)
    refine gx_callV C (ct_WM_isState (gx_l K) D dA ad mm r hc hσ (nI x.1) t0) me_WM_isState ml_WM_84 mn_WM_isState _ (gx_w_at (by decide) (gm_r hc0)) rfl dd_WM_arc_12 (kk := fun v w hq => ?_)
    obtain ⟨rfl, rfl⟩ := hq
    rcases hy : o_is σ (nI x.1) t0 with _ | y
    · refine gx_if_eq C 27 dd_WM_arc_15 (fun h15 => ?_) (fun h15 => absurd rfl h15)
      refine gx_iconst (v := -1) C dd_WM_arc_27 (kk := ?_)
      refine gx_iret C dd_WM_arc_28 ?_
      have hsp : o_arc σ (nI x.1) (nI x.2) t0 g0 w0 = (-1, σ) := by
        unfold o_arc
        simp only [hx, hy]
      rw [hsp]
      exact ⟨mm, r, rfl, hc, fun _ _ => rfl, rfl⟩
    · obtain ⟨hy4, hys, hyq, rfl⟩ := o_is_of hσ hy
      have hyx : y.1 = x.1 := ((nI_eq (by omega) (by omega)).mp hys).symm
      rw [hyx] at hyq
      refine gx_if_eq C 27 dd_WM_arc_15 (fun h15 => absurd (show true = false from fb_0.mp h15) (by decide)) (fun h15 => ?_)
      refine gx_iload C 5 dd_WM_arc_18 (kk := ?_)
      refine gx_i2l C dd_WM_arc_20 (w := w0.toInt64) (hv := rfl) (kk := ?_)
      refine gx_callS C (ct_WM_isWeight (gx_l K) D dA _ w0.toInt64) me_WM_isWeight ml_WM_88 ms_WM_isWeight dd_WM_arc_21 (kk := fun v w hq => ?_)
      obtain ⟨rfl, rfl⟩ := hq
      refine gx_topi _ (ix_w w0) ?_
      rcases hw : ix 1000000001 w0 with _ | m
      · refine gx_if_ne C 29 dd_WM_arc_24 (fun h24 => absurd rfl h24) (fun h24 => ?_)
        refine gx_iconst (v := -1) C dd_WM_arc_27 (kk := ?_)
        refine gx_iret C dd_WM_arc_28 ?_
        rcases hg0 : ix 64 g0 with _ | g
        · have hsp : o_arc σ (nI x.1) (nI x.2) (nI y.2) g0 w0 = (-1, σ) := by
            unfold o_arc
            simp only [hx, hy, hw, hg0]
          rw [hsp]
          exact ⟨mm, r, rfl, hc, fun _ _ => rfl, rfl⟩
        · have hsp : o_arc σ (nI x.1) (nI x.2) (nI y.2) g0 w0 = (-1, σ) := by
            unfold o_arc
            simp only [hx, hy, hw, hg0]
          rw [hsp]
          exact ⟨mm, r, rfl, hc, fun _ _ => rfl, rfl⟩
      · obtain ⟨hm, rfl⟩ := ix_of (by decide) hw
        refine gx_if_ne C 29 dd_WM_arc_24 (fun h24 => ?_) (fun h24 => absurd (show true = false from fb_0.mp h24) (by decide))
        rcases hg : ix 64 g0 with _ | g
        · refine gx_iload C 4 dd_WM_arc_29 (kk := ?_)
          refine gx_if_lt C 41 dd_WM_arc_31 (fun h31 => ?_) (fun h31 => ?_)
          · refine gx_iconst (v := -1) C dd_WM_arc_41 (kk := ?_)
            refine gx_iret C dd_WM_arc_42 ?_
            have hsp : o_arc σ (nI x.1) (nI x.2) (nI y.2) g0 (nI m) = (-1, σ) := by
              unfold o_arc
              simp only [hx, hy, hw, hg]
            rw [hsp]
            exact ⟨mm, r, rfl, hc, fun _ _ => rfl, rfl⟩
          · refine gx_iload C 4 dd_WM_arc_34 (kk := ?_)
            refine gx_bipush (v := nI 64) C dd_WM_arc_36 (kk := ?_)
            refine gx_icmp_lt C 43 dd_WM_arc_38 (fun h38 => absurd h38 (ix_nlt hg h31)) (fun h38 => ?_)
            refine gx_iconst (v := -1) C dd_WM_arc_41 (kk := ?_)
            refine gx_iret C dd_WM_arc_42 ?_
            have hsp : o_arc σ (nI x.1) (nI x.2) (nI y.2) g0 (nI m) = (-1, σ) := by
              unfold o_arc
              simp only [hx, hy, hw, hg]
            rw [hsp]
            exact ⟨mm, r, rfl, hc, fun _ _ => rfl, rfl⟩
        · obtain ⟨hg64, rfl⟩ := ix_of (by decide) hg
          refine gx_iload C 4 dd_WM_arc_29 (kk := ?_)
          refine gx_if_lt C 41 dd_WM_arc_31 (fun h31 => absurd h31 (nI_pos (by omega))) (fun h31 => ?_)
          refine gx_iload C 4 dd_WM_arc_34 (kk := ?_)
          refine gx_bipush (v := nI 64) C dd_WM_arc_36 (kk := ?_)
          refine gx_icmp_lt C 43 dd_WM_arc_38 (fun h38 => ?_) (fun h38 => absurd (nI_lt (a := g) (b := 64) (by omega) (by decide)) h38)
          refine gx_aload_n C 0 dd_WM_arc_43 (kk := ?_)
          refine gx_get C fd_WM_11 (gm_r hc0) dd_WM_arc_44 (kk := ?_)
          refine gx_iload_n C 1 dd_WM_arc_47 (kk := ?_)
          refine gz_slot C hc1 hf dd_WM_arc_48 hx4 (kk := ?_)
          refine gx_astore C _ dd_WM_arc_49 (kk := ?_)
          refine gx_aload C 0 dd_WM_arc_51 (kk := ?_)
          refine gx_iload_n C 3 dd_WM_arc_53 (kk := ?_)
          refine gx_iload C 5 dd_WM_arc_54 (kk := ?_)
          refine gx_iload_n C 4 dd_WM_arc_56 (kk := ?_)
          refine gx_callS C (ct_WM_keyOf (gx_l K) D dA _ x.2 g y.2 (by omega) (by omega) (by omega)) me_WM_keyOf ml_WM_100 ms_WM_keyOf dd_WM_arc_57 (kk := fun v w hq => ?_)
          obtain ⟨rfl, rfl⟩ := hq
          refine gx_iload C 6 dd_WM_arc_60 (kk := ?_)
          refine gx_i2l C dd_WM_arc_62 (w := lN m) (hv := nI_l (by omega)) (kk := ?_)
          refine gx_callV C (ct_Ma_bring (gx_l K) D dA ad mm r (i := π x.1) (a := σ.1 x.1) (key := x.2 * 1024 + g * 16 + y.2) (x0 := m) (B := 1000000001) (hπ.1 x.1 (by omega)) (hM x.1 hx4) hok.1 hok.2.1 (by decide) (by omega) (by omega)) me_Ma_bring ml_WM_104 mn_Ma_bring _ (gx_w_at (by have := hπ.1 x.1 (by omega); omega) (gm_at (j := 0) (hπ.1 x.1 (by omega)) (by decide))) rfl dd_WM_arc_63 (kk := fun v w hq => ?_)
          rcases hq with ⟨hr, rfl, M2, rfl, hM2⟩ | ⟨hr, rfl, rfl⟩
          · refine gx_if_eq C 77 dd_WM_arc_66 (fun h66 => absurd h66 (by decide)) (fun h66 => ?_)
            refine gx_aload C 0 dd_WM_arc_69 (kk := ?_)
            refine gm_get C fd_WM_108 (hπ.1 x.1 (by omega)) dd_WM_arc_71 (kk := ?_)
            refine gx_topi (nI (am_in (x.2 * 1024 + g * 16 + y.2) m (am_ar (σ.1 x.1))).length) (by rw [gm_us]; exact hM2.2.2.2.1) ?_
            refine gx_goto C 79 dd_WM_arc_74 (kk := ?_)
            refine gx_iret C dd_WM_arc_79 ?_
            have hsp : o_arc σ (nI x.1) (nI x.2) (nI y.2) (nI g) (nI m) = (nI (am_in (x.2 * 1024 + g * 16 + y.2) m (am_ar (σ.1 x.1))).length, o_set σ x.1 (am_n (σ.1 x.1), am_st (σ.1 x.1), am_en (σ.1 x.1), am_in (x.2 * 1024 + g * 16 + y.2) m (am_ar (σ.1 x.1)))) := by
              unfold o_arc
              simp only [hx, hy, hw, hg]
              rw [if_pos hr]
            rw [hsp]
            exact ⟨_, r, rfl, cs_put hπ hc0 hc1 hf (cs_m1 hπ hx4 hM hM2) (cs_R_s hR), fun _ _ => rfl, rfl⟩
          · refine gx_if_eq C 77 dd_WM_arc_66 (fun h66 => ?_) (fun h66 => absurd rfl h66)
            refine gx_bipush (v := -2) C dd_WM_arc_77 (kk := ?_)
            refine gx_iret C dd_WM_arc_79 ?_
            have hsp : o_arc σ (nI x.1) (nI x.2) (nI y.2) (nI g) (nI m) = (-2, σ) := by
              unfold o_arc
              simp only [hx, hy, hw, hg]
              rw [if_neg (by rw [hr]; decide)]
            rw [hsp]
            exact ⟨mm, r, rfl, hc, fun _ _ => rfl, rfl⟩
set_option maxRecDepth 100000 in
set_option maxHeartbeats 4000000 in
theorem ct_WM_endOf (l : Launch) (D : va_G) (dA : Nat → ClassId) (ad : Nat → Nat) (mm : Nat → gm_V) (r : Nat → va_E) {σ : sg} (hc : cs dA ad mm r σ) (hσ : sg_ok σ) (s q : Int32) : gx_Ct l D dA yy_WM_endOf cc_WM_endOf 3 (some .int) 2 0 0 [.ref (ad 0), .int s, .int q] (gx_w ad (gm_h dA ad mm r)) (fun v w => ∃ mm2 r2, w = gx_w ad (gm_h dA ad mm2 r2) ∧ cs dA ad mm2 r2 (o_endOf σ s q).2 ∧ (∀ k, 43 ≤ k → r2 k = r k) ∧ v = some (.int (o_endOf σ s q).1)) := by
  refine gx_of (by decide) (Nat.le_of_ble_eq_true rfl) (fun K C _ _ => ?_)
  obtain ⟨π, f, hπ, hc0, hc1, hf, hM, hR⟩ := cs_get hc
  have hπ4 := hπ.1
  refine gx_aload_n C 0 dd_WM_endOf_0 (kk := ?_)
  refine gx_iload_n C 1 dd_WM_endOf_1 (kk := ?_)
  refine gx_iload_n C 2 dd_WM_endOf_2 (kk := ?_)
  refine gx_callV C (ct_WM_isState (gx_l K) D dA ad mm r hc hσ s q) me_WM_isState ml_WM_84 mn_WM_isState _ (gx_w_at (by decide) (gm_r hc0)) rfl dd_WM_endOf_3 (kk := fun v w hq => ?_)
  obtain ⟨rfl, rfl⟩ := hq
  rcases hx : o_is σ s q with _ | x
  · refine gx_if_eq C 24 dd_WM_endOf_6 (fun h6 => ?_) (fun h6 => absurd rfl h6)
    refine gx_iconst (v := -1) C dd_WM_endOf_24 (kk := ?_)
    refine gx_iret C dd_WM_endOf_25 ?_
    have hsp : o_endOf σ s q = (-1, σ) := by
      unfold o_endOf
      simp only [hx]
    rw [hsp]
    exact ⟨mm, r, rfl, hc, fun _ _ => rfl, rfl⟩
  · obtain ⟨hx4, rfl, hxq, rfl⟩ := o_is_of hσ hx
    have hok := hσ.1 x.1 hx4
    have hn16 := hok.1.1
    refine gx_if_eq C 24 dd_WM_endOf_6 (fun h6 => absurd (show true = false from fb_0.mp h6) (by decide)) (fun h6 => ?_)
    refine gx_aload_n C 0 dd_WM_endOf_9 (kk := ?_)
    refine gx_get C fd_WM_11 (gm_r hc0) dd_WM_endOf_10 (kk := ?_)
    refine gx_iload_n C 1 dd_WM_endOf_13 (kk := ?_)
    refine gz_slot C hc1 hf dd_WM_endOf_14 hx4 (kk := ?_)
    refine gm_get C fd_WM_96 (hπ.1 x.1 (by omega)) dd_WM_endOf_15 (kk := ?_)
    refine gx_iload_n C 2 dd_WM_endOf_18 (kk := ?_)
    refine gm_ln_e C (hπ.1 x.1 (by omega)) dd_WM_endOf_19 (by omega) (kk := ?_)
    refine gx_topl _ ((hM x.1 hx4).2.2.1 x.2 (by omega)) ?_
    refine gx_l2i C dd_WM_endOf_20 (w := on_r (am_en (σ.1 x.1) x.2)) (hv := on_ri) (kk := ?_)
    refine gx_goto C 25 dd_WM_endOf_21 (kk := ?_)
    refine gx_iret C dd_WM_endOf_25 ?_
    have hsp : o_endOf σ (nI x.1) (nI x.2) = (on_r (am_en (σ.1 x.1) x.2), σ) := by
      unfold o_endOf
      simp only [hx]
    rw [hsp]
    exact ⟨mm, r, rfl, hc, fun _ _ => rfl, rfl⟩
set_option maxRecDepth 100000 in
set_option maxHeartbeats 4000000 in
theorem ct_WM_step (l : Launch) (D : va_G) (dA : Nat → ClassId) (ad : Nat → Nat) (mm : Nat → gm_V) (r : Nat → va_E) {σ : sg} (hc : cs dA ad mm r σ) (hσ : sg_ok σ) (k what : Int32) : gx_Ct l D dA yy_WM_step cc_WM_step 3 (some .int) 2 0 0 [.ref (ad 0), .int k, .int what] (gx_w ad (gm_h dA ad mm r)) (fun v w => ∃ mm2 r2, w = gx_w ad (gm_h dA ad mm2 r2) ∧ cs dA ad mm2 r2 (o_step σ k what).2 ∧ (∀ k, 43 ≤ k → r2 k = r k) ∧ v = some (.int (o_step σ k what).1)) := by
  refine gx_of (by decide) (Nat.le_of_ble_eq_true rfl) (fun K C _ _ => ?_)
  obtain ⟨π, f, hπ, hc0, hc1, hf, hM, hR⟩ := cs_get hc
  have hπ4 := hπ.1
  obtain ⟨hb37, fk, fw, hb38, hb39, hbx⟩ := hR.2.2.2.2.2.2.1
  have hp16 := hσ.2.1
  rcases hk : ix σ.2.1.length k with _ | j
  · refine gx_iload_n C 1 dd_WM_step_0 (kk := ?_)
    refine gx_if_lt C 15 dd_WM_step_1 (fun h1 => ?_) (fun h1 => ?_)
    · refine gx_iconst (v := -1) C dd_WM_step_15 (kk := ?_)
      refine gx_iret C dd_WM_step_16 ?_
      have hpt : o_pt σ.2.1 k what = -1 := by
        unfold o_pt
        simp only [hk]
      exact ⟨mm, r, rfl, hc, fun _ _ => rfl, by rw [o_step, hpt]⟩
    · refine gx_iload_n C 1 dd_WM_step_4 (kk := ?_)
      refine gx_aload_n C 0 dd_WM_step_5 (kk := ?_)
      refine gx_get C fd_WM_58 (gm_r hc0) dd_WM_step_6 (kk := ?_)
      refine gx_get C fd_WM_168 (gm_r hb37) dd_WM_step_9 (kk := ?_)
      refine gx_icmp_lt C 17 dd_WM_step_12 (fun h12 => absurd h12 (ix_nlt hk h1)) (fun h12 => ?_)
      refine gx_iconst (v := -1) C dd_WM_step_15 (kk := ?_)
      refine gx_iret C dd_WM_step_16 ?_
      have hpt : o_pt σ.2.1 k what = -1 := by
        unfold o_pt
        simp only [hk]
      exact ⟨mm, r, rfl, hc, fun _ _ => rfl, by rw [o_step, hpt]⟩
  · obtain ⟨hj, rfl⟩ := ix_of (by omega) hk
    obtain ⟨x, hx⟩ : ∃ x, σ.2.1[j]? = some x := ⟨_, List.getElem?_eq_getElem hj⟩
    refine gx_iload_n C 1 dd_WM_step_0 (kk := ?_)
    refine gx_if_lt C 15 dd_WM_step_1 (fun h1 => absurd h1 (nI_pos (by omega))) (fun h1 => ?_)
    refine gx_iload_n C 1 dd_WM_step_4 (kk := ?_)
    refine gx_aload_n C 0 dd_WM_step_5 (kk := ?_)
    refine gx_get C fd_WM_58 (gm_r hc0) dd_WM_step_6 (kk := ?_)
    refine gx_get C fd_WM_168 (gm_r hb37) dd_WM_step_9 (kk := ?_)
    refine gx_icmp_lt C 17 dd_WM_step_12 (fun h12 => ?_) (fun h12 => absurd (nI_lt (a := j) (b := σ.2.1.length) hj (by omega)) h12)
    refine gx_aload_n C 0 dd_WM_step_17 (kk := ?_)
    refine gx_get C fd_WM_58 (gm_r hc0) dd_WM_step_18 (kk := ?_)
    refine gx_get C fd_WM_171 (gm_r hb37) dd_WM_step_21 (kk := ?_)
    refine gx_iload_n C 1 dd_WM_step_24 (kk := ?_)
    refine gz_iaload C hb38 dd_WM_step_25 (by omega) (kk := ?_)
    refine gx_topi _ (hbx j x hx).1 ?_
    refine gx_aload_n C 0 dd_WM_step_26 (kk := ?_)
    refine gx_get C fd_WM_58 (gm_r hc0) dd_WM_step_27 (kk := ?_)
    refine gx_get C fd_WM_175 (gm_r hb37) dd_WM_step_30 (kk := ?_)
    refine gx_iload_n C 1 dd_WM_step_33 (kk := ?_)
    refine gz_laload C hb39 dd_WM_step_34 (by omega) (kk := ?_)
    refine gx_topl _ (hbx j x hx).2 ?_
    refine gx_iload_n C 2 dd_WM_step_35 (kk := ?_)
    refine gx_callS C (ct_WM_arcPart (gx_l K) D dA _ (x := x) (hσ.2.2 x (List.mem_of_getElem? hx)).1 what) me_WM_arcPart ml_WM_178 ms_WM_arcPart dd_WM_step_36 (kk := fun v w hq => ?_)
    obtain ⟨rfl, rfl⟩ := hq
    refine gx_iret C dd_WM_step_39 ?_
    have hpt : o_pt σ.2.1 (nI j) what = ap_v x what := by
      unfold o_pt
      simp only [hk, hx]
    exact ⟨mm, r, rfl, hc, fun _ _ => rfl, by rw [o_step, hpt]⟩
set_option maxRecDepth 100000 in
set_option maxHeartbeats 4000000 in
theorem ct_WM_part (l : Launch) (D : va_G) (dA : Nat → ClassId) (ad : Nat → Nat) (mm : Nat → gm_V) (r : Nat → va_E) {σ : sg} (hc : cs dA ad mm r σ) (hσ : sg_ok σ) (s k what : Int32) : gx_Ct l D dA yy_WM_part cc_WM_part 4 (some .int) 2 0 0 [.ref (ad 0), .int s, .int k, .int what] (gx_w ad (gm_h dA ad mm r)) (fun v w => ∃ mm2 r2, w = gx_w ad (gm_h dA ad mm2 r2) ∧ cs dA ad mm2 r2 (o_part σ s k what).2 ∧ (∀ k, 43 ≤ k → r2 k = r k) ∧ v = some (.int (o_part σ s k what).1)) := by
  refine gx_of (by decide) (Nat.le_of_ble_eq_true rfl) (fun K C _ _ => ?_)
  obtain ⟨π, f, hπ, hc0, hc1, hf, hM, hR⟩ := cs_get hc
  have hπ4 := hπ.1
  refine gx_iload_n C 1 dd_WM_part_0 (kk := ?_)
  refine gx_callS C (ct_WM_isSlot (gx_l K) D dA _ s) me_WM_isSlot ml_WM_76 ms_WM_isSlot dd_WM_part_1 (kk := fun v w hq => ?_)
  obtain ⟨rfl, rfl⟩ := hq
  refine gx_topi _ ix_b ?_
  rcases hi : ix 4 s with _ | i
  · refine gx_if_eq C 24 dd_WM_part_4 (fun h4 => ?_) (fun h4 => absurd rfl h4)
    refine gx_iconst (v := -1) C dd_WM_part_24 (kk := ?_)
    refine gx_iret C dd_WM_part_25 ?_
    have hsp : o_part σ s k what = (-1, σ) := by
      unfold o_part
      simp only [hi]
    rw [hsp]
    exact ⟨mm, r, rfl, hc, fun _ _ => rfl, rfl⟩
  · obtain ⟨hi4, rfl⟩ := ix_of (by decide) hi
    refine gx_if_eq C 24 dd_WM_part_4 (fun h4 => absurd (show true = false from fb_0.mp h4) (by decide)) (fun h4 => ?_)
    have hok := hσ.1 i hi4
    have hn16 := hok.1.1
    have hl64 := hok.1.2.1
    rcases hk : ix (am_ar (σ.1 i)).length k with _ | j
    · refine gx_iload_n C 2 dd_WM_part_7 (kk := ?_)
      refine gx_if_lt C 24 dd_WM_part_8 (fun h8 => ?_) (fun h8 => ?_)
      · refine gx_iconst (v := -1) C dd_WM_part_24 (kk := ?_)
        refine gx_iret C dd_WM_part_25 ?_
        have hpt : o_pt (am_ar (σ.1 i)) k what = -1 := by
          unfold o_pt
          simp only [hk]
        have hsp : o_part σ (nI i) k what = (-1, σ) := by
          unfold o_part
          simp only [hi, hpt]
        rw [hsp]
        exact ⟨mm, r, rfl, hc, fun _ _ => rfl, rfl⟩
      · refine gx_iload_n C 2 dd_WM_part_11 (kk := ?_)
        refine gx_aload_n C 0 dd_WM_part_12 (kk := ?_)
        refine gx_get C fd_WM_11 (gm_r hc0) dd_WM_part_13 (kk := ?_)
        refine gx_iload_n C 1 dd_WM_part_16 (kk := ?_)
        refine gz_slot C hc1 hf dd_WM_part_17 hi4 (kk := ?_)
        refine gm_get C fd_WM_108 (hπ.1 i (by omega)) dd_WM_part_18 (kk := ?_)
        refine gx_topi _ (hM i hi4).2.2.2.1 ?_
        refine gx_icmp_lt C 26 dd_WM_part_21 (fun h21 => absurd h21 (ix_nlt hk h8)) (fun h21 => ?_)
        refine gx_iconst (v := -1) C dd_WM_part_24 (kk := ?_)
        refine gx_iret C dd_WM_part_25 ?_
        have hpt : o_pt (am_ar (σ.1 i)) k what = -1 := by
          unfold o_pt
          simp only [hk]
        have hsp : o_part σ (nI i) k what = (-1, σ) := by
          unfold o_part
          simp only [hi, hpt]
        rw [hsp]
        exact ⟨mm, r, rfl, hc, fun _ _ => rfl, rfl⟩
    · obtain ⟨hj, rfl⟩ := ix_of (by omega) hk
      obtain ⟨x, hx⟩ : ∃ x, (am_ar (σ.1 i))[j]? = some x := ⟨_, List.getElem?_eq_getElem hj⟩
      refine gx_iload_n C 2 dd_WM_part_7 (kk := ?_)
      refine gx_if_lt C 24 dd_WM_part_8 (fun h8 => absurd h8 (nI_pos (by omega))) (fun h8 => ?_)
      refine gx_iload_n C 2 dd_WM_part_11 (kk := ?_)
      refine gx_aload_n C 0 dd_WM_part_12 (kk := ?_)
      refine gx_get C fd_WM_11 (gm_r hc0) dd_WM_part_13 (kk := ?_)
      refine gx_iload_n C 1 dd_WM_part_16 (kk := ?_)
      refine gz_slot C hc1 hf dd_WM_part_17 hi4 (kk := ?_)
      refine gm_get C fd_WM_108 (hπ.1 i (by omega)) dd_WM_part_18 (kk := ?_)
      refine gx_topi _ (hM i hi4).2.2.2.1 ?_
      refine gx_icmp_lt C 26 dd_WM_part_21 (fun h21 => ?_) (fun h21 => absurd (nI_lt (a := j) (b := (am_ar (σ.1 i)).length) hj (by omega)) h21)
      refine gx_aload_n C 0 dd_WM_part_26 (kk := ?_)
      refine gx_get C fd_WM_11 (gm_r hc0) dd_WM_part_27 (kk := ?_)
      refine gx_iload_n C 1 dd_WM_part_30 (kk := ?_)
      refine gz_slot C hc1 hf dd_WM_part_31 hi4 (kk := ?_)
      refine gm_get C fd_WM_186 (hπ.1 i (by omega)) dd_WM_part_32 (kk := ?_)
      refine gx_iload_n C 2 dd_WM_part_35 (kk := ?_)
      refine gm_ln_k C (hπ.1 i (by omega)) dd_WM_part_36 (by omega) (kk := ?_)
      refine gx_topi _ ((hM i hi4).2.2.2.2 j x hx).1 ?_
      refine gx_aload_n C 0 dd_WM_part_37 (kk := ?_)
      refine gx_get C fd_WM_11 (gm_r hc0) dd_WM_part_38 (kk := ?_)
      refine gx_iload_n C 1 dd_WM_part_41 (kk := ?_)
      refine gz_slot C hc1 hf dd_WM_part_42 hi4 (kk := ?_)
      refine gm_get C fd_WM_187 (hπ.1 i (by omega)) dd_WM_part_43 (kk := ?_)
      refine gx_iload_n C 2 dd_WM_part_46 (kk := ?_)
      refine gm_ln_g C (hπ.1 i (by omega)) dd_WM_part_47 (by omega) (kk := ?_)
      refine gx_topl _ ((hM i hi4).2.2.2.2 j x hx).2 ?_
      refine gx_iload_n C 3 dd_WM_part_48 (kk := ?_)
      refine gx_callS C (ct_WM_arcPart (gx_l K) D dA _ (x := x) (hok.1.2.2.1 x (List.mem_of_getElem? hx)).1 what) me_WM_arcPart ml_WM_178 ms_WM_arcPart dd_WM_part_49 (kk := fun v w hq => ?_)
      obtain ⟨rfl, rfl⟩ := hq
      refine gx_iret C dd_WM_part_52 ?_
      have hpt : o_pt (am_ar (σ.1 i)) (nI j) what = ap_v x what := by
        unfold o_pt
        simp only [hk, hx]
      have hsp : o_part σ (nI i) (nI j) what = (ap_v x what, σ) := by
        unfold o_part
        simp only [hi, hpt]
      rw [hsp]
      exact ⟨mm, r, rfl, hc, fun _ _ => rfl, rfl⟩
set_option maxRecDepth 100000 in
set_option maxHeartbeats 4000000 in
theorem ct_WM_count (l : Launch) (D : va_G) (dA : Nat → ClassId) (ad : Nat → Nat) (mm : Nat → gm_V) (r : Nat → va_E) {σ : sg} (hc : cs dA ad mm r σ) (hσ : sg_ok σ) (s what : Int32) : gx_Ct l D dA yy_WM_count cc_WM_count 4 (some .int) 1 0 0 [.ref (ad 0), .int s, .int what] (gx_w ad (gm_h dA ad mm r)) (fun v w => ∃ mm2 r2, w = gx_w ad (gm_h dA ad mm2 r2) ∧ cs dA ad mm2 r2 (o_count σ s what).2 ∧ (∀ k, 43 ≤ k → r2 k = r k) ∧ v = some (.int (o_count σ s what).1)) := by
  refine gx_of (by decide) (Nat.le_of_ble_eq_true rfl) (fun K C _ _ => ?_)
  obtain ⟨π, f, hπ, hc0, hc1, hf, hM, hR⟩ := cs_get hc
  have hπ4 := hπ.1
  refine gx_iload_n C 1 dd_WM_count_0 (kk := ?_)
  refine gx_callS C (ct_WM_isSlot (gx_l K) D dA _ s) me_WM_isSlot ml_WM_76 ms_WM_isSlot dd_WM_count_1 (kk := fun v w hq => ?_)
  obtain ⟨rfl, rfl⟩ := hq
  refine gx_topi _ ix_b ?_
  rcases hi : ix 4 s with _ | i
  · refine gx_if_ne C 9 dd_WM_count_4 (fun h4 => absurd rfl h4) (fun h4 => ?_)
    refine gx_iconst (v := -1) C dd_WM_count_7 (kk := ?_)
    refine gx_iret C dd_WM_count_8 ?_
    have hsp : o_count σ s what = (-1, σ) := by
      unfold o_count
      simp only [hi]
    rw [hsp]
    exact ⟨mm, r, rfl, hc, fun _ _ => rfl, rfl⟩
  · obtain ⟨hi4, rfl⟩ := ix_of (by decide) hi
    refine gx_if_ne C 9 dd_WM_count_4 (fun h4 => ?_) (fun h4 => absurd (show true = false from fb_0.mp h4) (by decide))
    refine gx_aload_n C 0 dd_WM_count_9 (kk := ?_)
    refine gx_get C fd_WM_11 (gm_r hc0) dd_WM_count_10 (kk := ?_)
    refine gx_iload_n C 1 dd_WM_count_13 (kk := ?_)
    refine gz_slot C hc1 hf dd_WM_count_14 hi4 (kk := ?_)
    refine gx_astore_n C _ dd_WM_count_15 (kk := ?_)
    refine gx_iload_n C 3 dd_WM_count_16 (kk := ?_)
    have hok := hσ.1 i hi4
    have hn16 := hok.1.1
    have hl64 := hok.1.2.1
    rcases hwt : ix 5 what with _ | j
    · refine gx_tableOut C 90 dd_WM_count_17 (by have := ix_out (by decide) hwt; omega) (by decide) ?_
      refine gx_iconst (v := -1) C dd_WM_count_90 (kk := ?_)
      refine gx_iret C dd_WM_count_91 ?_
      have hct : o_ct (σ.1 i) what = -1 := by
        unfold o_ct
        simp only [hwt]
      have hsp : o_count σ (nI i) what = (-1, σ) := by
        unfold o_count
        simp only [hi, hct]
      rw [hsp]
      exact ⟨mm, r, rfl, hc, fun _ _ => rfl, rfl⟩
    · obtain ⟨hj, rfl⟩ := ix_of (by decide) hwt
      rcases (show j = 0 ∨ j = 1 ∨ j = 2 ∨ j = 3 ∨ j = 4 by omega) with rfl | rfl | rfl | rfl | rfl
      · refine gx_tableIn C 52 dd_WM_count_17 (off := 35) (by decide) (by decide) (by decide) (by decide) ?_
        refine gx_aload_n C 0 dd_WM_count_52 (kk := ?_)
        refine gm_get C fd_WM_120 (hπ.1 i (by omega)) dd_WM_count_53 (kk := ?_)
        refine gx_topi _ (hM i hi4).1 ?_
        refine gx_iret C dd_WM_count_56 ?_
        have hct : o_ct (σ.1 i) (nI 0) = nI (am_n (σ.1 i)) := by
          unfold o_ct
          simp only [hwt]
        have hsp : o_count σ (nI i) (nI 0) = (nI (am_n (σ.1 i)), σ) := by
          unfold o_count
          simp only [hi, hct]
        rw [hsp]
        exact ⟨mm, r, rfl, hc, fun _ _ => rfl, rfl⟩
      · refine gx_tableIn C 57 dd_WM_count_17 (off := 40) (by decide) (by decide) (by decide) (by decide) ?_
        refine gx_aload_n C 0 dd_WM_count_57 (kk := ?_)
        refine gm_get C fd_WM_108 (hπ.1 i (by omega)) dd_WM_count_58 (kk := ?_)
        refine gx_topi _ (hM i hi4).2.2.2.1 ?_
        refine gx_iret C dd_WM_count_61 ?_
        have hct : o_ct (σ.1 i) (nI 1) = nI (am_ar (σ.1 i)).length := by
          unfold o_ct
          simp only [hwt]
        have hsp : o_count σ (nI i) (nI 1) = (nI (am_ar (σ.1 i)).length, σ) := by
          unfold o_count
          simp only [hi, hct]
        rw [hsp]
        exact ⟨mm, r, rfl, hc, fun _ _ => rfl, rfl⟩
      · refine gx_tableIn C 62 dd_WM_count_17 (off := 45) (by decide) (by decide) (by decide) (by decide) ?_
        refine gx_aload_n C 0 dd_WM_count_62 (kk := ?_)
        refine gx_callV C (ct_Ma_countEnds (gx_l K) D dA ad mm r (i := π i) (hπ.1 i (by omega)) (hM i hi4) hn16 (fun q e he => Nat.lt_trans (hok.1.2.2.2.1 q e he) (by decide))) me_Ma_countEnds ml_WM_182 mn_Ma_countEnds _ (gx_w_at (by have := hπ.1 i (by omega); omega) (gm_at (j := 0) (hπ.1 i (by omega)) (by decide))) rfl dd_WM_count_63 (kk := fun v w hq => ?_)
        obtain ⟨rfl, rfl⟩ := hq
        refine gx_iret C dd_WM_count_66 ?_
        have hct : o_ct (σ.1 i) (nI 2) = nI (am_ce (am_en (σ.1 i)) (am_n (σ.1 i))) := by
          unfold o_ct
          simp only [hwt]
        have hsp : o_count σ (nI i) (nI 2) = (nI (am_ce (am_en (σ.1 i)) (am_n (σ.1 i))), σ) := by
          unfold o_count
          simp only [hi, hct]
        rw [hsp]
        exact ⟨mm, r, rfl, hc, fun _ _ => rfl, rfl⟩
      · refine gx_tableIn C 67 dd_WM_count_17 (off := 50) (by decide) (by decide) (by decide) (by decide) ?_
        rcases hst : am_st (σ.1 i) with _ | x
        · have hsq := (hM i hi4).2.1
          rw [hst] at hsq
          refine gx_aload_n C 0 dd_WM_count_67 (kk := ?_)
          refine gm_get C fd_WM_150 (hπ.1 i (by omega)) dd_WM_count_68 (kk := ?_)
          refine gx_topi _ hsq.1 ?_
          refine gx_iret C dd_WM_count_71 ?_
          have hct : o_ct (σ.1 i) (nI 3) = -1 := by
            unfold o_ct
            simp only [hwt, hst]
            rfl
          have hsp : o_count σ (nI i) (nI 3) = (-1, σ) := by
            unfold o_count
            simp only [hi, hct]
          rw [hsp]
          exact ⟨mm, r, rfl, hc, fun _ _ => rfl, rfl⟩
        · have hsq := (hM i hi4).2.1
          rw [hst] at hsq
          have hxb := hok.1.2.2.2.2 x hst
          refine gx_aload_n C 0 dd_WM_count_67 (kk := ?_)
          refine gm_get C fd_WM_150 (hπ.1 i (by omega)) dd_WM_count_68 (kk := ?_)
          refine gx_topi _ hsq.1 ?_
          refine gx_iret C dd_WM_count_71 ?_
          have hct : o_ct (σ.1 i) (nI 3) = nI x.1 := by
            unfold o_ct
            simp only [hwt, hst]
            rfl
          have hsp : o_count σ (nI i) (nI 3) = (nI x.1, σ) := by
            unfold o_count
            simp only [hi, hct]
          rw [hsp]
          exact ⟨mm, r, rfl, hc, fun _ _ => rfl, rfl⟩
      · refine gx_tableIn C 72 dd_WM_count_17 (off := 55) (by decide) (by decide) (by decide) (by decide) ?_
        rcases hst : am_st (σ.1 i) with _ | x
        · have hsq := (hM i hi4).2.1
          rw [hst] at hsq
          refine gx_aload_n C 0 dd_WM_count_72 (kk := ?_)
          refine gm_get C fd_WM_150 (hπ.1 i (by omega)) dd_WM_count_73 (kk := ?_)
          refine gx_topi _ hsq.1 ?_
          refine gx_iconst (v := -1) C dd_WM_count_76 (kk := ?_)
          refine gx_icmp_ne C 84 dd_WM_count_77 (fun h77 => absurd rfl h77) (fun h77 => ?_)
          refine gx_iconst (v := -1) C dd_WM_count_80 (kk := ?_)
          refine gx_goto C 89 dd_WM_count_81 (kk := ?_)
          refine gx_iret C dd_WM_count_89 ?_
          have hct : o_ct (σ.1 i) (nI 4) = -1 := by
            unfold o_ct
            simp only [hwt, hst]
            rfl
          have hsp : o_count σ (nI i) (nI 4) = (-1, σ) := by
            unfold o_count
            simp only [hi, hct]
          rw [hsp]
          exact ⟨mm, r, rfl, hc, fun _ _ => rfl, rfl⟩
        · have hsq := (hM i hi4).2.1
          rw [hst] at hsq
          have hxb := hok.1.2.2.2.2 x hst
          refine gx_aload_n C 0 dd_WM_count_72 (kk := ?_)
          refine gm_get C fd_WM_150 (hπ.1 i (by omega)) dd_WM_count_73 (kk := ?_)
          refine gx_topi _ hsq.1 ?_
          refine gx_iconst (v := -1) C dd_WM_count_76 (kk := ?_)
          refine gx_icmp_ne C 84 dd_WM_count_77 (fun h77 => ?_) (fun h77 => absurd h77 (nI_m1 (by omega)))
          refine gx_aload_n C 0 dd_WM_count_84 (kk := ?_)
          refine gm_get C fd_WM_160 (hπ.1 i (by omega)) dd_WM_count_85 (kk := ?_)
          refine gx_topl _ hsq.2 ?_
          refine gx_l2i C dd_WM_count_88 (w := nI x.2) (hv := lN_i _) (kk := ?_)
          refine gx_iret C dd_WM_count_89 ?_
          have hct : o_ct (σ.1 i) (nI 4) = nI x.2 := by
            unfold o_ct
            simp only [hwt, hst]
            rfl
          have hsp : o_count σ (nI i) (nI 4) = (nI x.2, σ) := by
            unfold o_count
            simp only [hi, hct]
          rw [hsp]
          exact ⟨mm, r, rfl, hc, fun _ _ => rfl, rfl⟩
set_option maxRecDepth 100000 in
set_option maxHeartbeats 4000000 in
theorem ct_WM_letter (l : Launch) (D : va_G) (dA : Nat → ClassId) (ad : Nat → Nat) (mm : Nat → gm_V) (r : Nat → va_E) {σ : sg} (hc : cs dA ad mm r σ) (hσ : sg_ok σ) (i : Int32) : gx_Ct l D dA yy_WM_letter cc_WM_letter 2 (some .int) 1 0 0 [.ref (ad 0), .int i] (gx_w ad (gm_h dA ad mm r)) (fun v w => ∃ mm2 r2, w = gx_w ad (gm_h dA ad mm2 r2) ∧ cs dA ad mm2 r2 (o_letter σ i).2 ∧ (∀ k, 43 ≤ k → r2 k = r k) ∧ v = some (.int (o_letter σ i).1)) := by
  refine gx_of (by decide) (Nat.le_of_ble_eq_true rfl) (fun K C _ _ => ?_)
  obtain ⟨π, f, hπ, hc0, hc1, hf, hM, hR⟩ := cs_get hc
  have hπ4 := hπ.1
  have hX := hR.2.2.2.2.2.2.2
  have hl16 := hX.2.2.1
  by_cases hi : i < 0
  · refine gx_aload_n C 0 dd_WM_letter_0 (kk := ?_)
    refine gx_get C fd_WM_65 (gm_r hc0) dd_WM_letter_1 (kk := ?_)
    refine gx_iload_n C 1 dd_WM_letter_4 (kk := ?_)
    refine gx_callV C (ct_Te_codeAtN (gx_l K) D dA ad mm r hX (x := i) hi) me_Te_codeAt ml_WM_204 mn_Te_codeAt _ (gx_w_at (by decide) (gm_r hX.1)) rfl dd_WM_letter_5 (kk := fun v w hq => ?_)
    obtain ⟨rfl, rfl⟩ := hq
    refine gx_iret C dd_WM_letter_8 ?_
    have hsp : o_letter σ i = (-1, σ) := by
      unfold o_letter
      rw [if_pos hi]
    rw [hsp]
    exact ⟨mm, r, rfl, hc, fun _ _ => rfl, rfl⟩
  · obtain ⟨j, hj, rfl⟩ := nI_of hi
    refine gx_aload_n C 0 dd_WM_letter_0 (kk := ?_)
    refine gx_get C fd_WM_65 (gm_r hc0) dd_WM_letter_1 (kk := ?_)
    refine gx_iload_n C 1 dd_WM_letter_4 (kk := ?_)
    refine gx_callV C (ct_Te_codeAt (gx_l K) D dA ad mm r hX (k := j) hj) me_Te_codeAt ml_WM_204 mn_Te_codeAt _ (gx_w_at (by decide) (gm_r hX.1)) rfl dd_WM_letter_5 (kk := fun v w hq => ?_)
    obtain ⟨rfl, rfl⟩ := hq
    refine gx_iret C dd_WM_letter_8 ?_
    have hsp : o_letter σ (nI j) = (on_r σ.2.2[j]?, σ) := by
      unfold o_letter
      rw [if_neg hi, nI_clamp hj]
    rw [hsp]
    exact ⟨mm, r, rfl, hc, fun _ _ => rfl, rfl⟩
set_option maxRecDepth 100000 in
set_option maxHeartbeats 4000000 in
theorem ct_WM_print (l : Launch) (D : va_G) (dA : Nat → ClassId) (ad : Nat → Nat) (mm : Nat → gm_V) (r : Nat → va_E) {σ : sg} (hc : cs dA ad mm r σ) (hσ : sg_ok σ) (s : Int32) : gx_Ct l D dA yy_WM_print cc_WM_print 2 (some .int) 5 0 0 [.ref (ad 0), .int s] (gx_w ad (gm_h dA ad mm r)) (fun v w => ∃ mm2 r2, w = gx_w ad (gm_h dA ad mm2 r2) ∧ cs dA ad mm2 r2 (o_print σ s).2 ∧ (∀ k, 43 ≤ k → r2 k = r k) ∧ v = some (.int (o_print σ s).1)) := by
  refine gx_of (by decide) (Nat.le_of_ble_eq_true rfl) (fun K C _ _ => ?_)
  obtain ⟨π, f, hπ, hc0, hc1, hf, hM, hR⟩ := cs_get hc
  have hπ4 := hπ.1
  have hX := hR.2.2.2.2.2.2.2
  have hl16 := hX.2.2.1
  refine gx_iload_n C 1 dd_WM_print_0 (kk := ?_)
  refine gx_callS C (ct_WM_isSlot (gx_l K) D dA _ s) me_WM_isSlot ml_WM_76 ms_WM_isSlot dd_WM_print_1 (kk := fun v w hq => ?_)
  obtain ⟨rfl, rfl⟩ := hq
  refine gx_topi _ ix_b ?_
  rcases hi : ix 4 s with _ | i
  · refine gx_if_ne C 9 dd_WM_print_4 (fun h4 => absurd rfl h4) (fun h4 => ?_)
    refine gx_iconst (v := -1) C dd_WM_print_7 (kk := ?_)
    refine gx_iret C dd_WM_print_8 ?_
    have hsp : o_print σ s = (-1, σ) := by
      unfold o_print
      simp only [hi]
    rw [hsp]
    exact ⟨mm, r, rfl, hc, fun _ _ => rfl, rfl⟩
  · obtain ⟨hi4, rfl⟩ := ix_of (by decide) hi
    refine gx_if_ne C 9 dd_WM_print_4 (fun h4 => ?_) (fun h4 => absurd (show true = false from fb_0.mp h4) (by decide))
    refine gx_aload_n C 0 dd_WM_print_9 (kk := ?_)
    refine gx_get C fd_WM_65 (gm_r hc0) dd_WM_print_10 (kk := ?_)
    refine gx_aload_n C 0 dd_WM_print_13 (kk := ?_)
    refine gx_get C fd_WM_11 (gm_r hc0) dd_WM_print_14 (kk := ?_)
    refine gx_iload_n C 1 dd_WM_print_17 (kk := ?_)
    refine gz_slot C hc1 hf dd_WM_print_18 hi4 (kk := ?_)
    refine gx_callV C (ct_Te_tell (gx_l K) D dA ad mm r hX (ia := π i) (a := σ.1 i) (hπ.1 i (by omega)) (hM i hi4) (hσ.1 i hi4).1) me_Te_tell ml_WM_188 mn_Te_tell _ (gx_w_at (by decide) (gm_r hX.1)) rfl dd_WM_print_19 (kk := fun v w hq => ?_)
    obtain ⟨rfl, r2, rfl, hX2, ho2⟩ := hq
    refine gx_aload_n C 0 dd_WM_print_22 (kk := ?_)
    refine gx_get C fd_WM_65 (gm_r ((ho2 0 (by decide) (by decide)).trans hc0)) dd_WM_print_23 (kk := ?_)
    refine gx_get C fd_WM_191 (gm_r hX2.1) dd_WM_print_26 (kk := ?_)
    refine gx_iret C dd_WM_print_29 ?_
    have hsp : o_print σ (nI i) = (nI (te_ps [] (te_all (σ.1 i))).length, (σ.1, σ.2.1, te_ps [] (te_all (σ.1 i)))) := by
      unfold o_print
      simp only [hi]
    rw [hsp]
    exact ⟨mm, r2, rfl, cs_put hπ ((ho2 0 (by decide) (by decide)).trans hc0) ((ho2 1 (by decide) (by decide)).trans hc1) hf hM (cs_R_t (fun k l1 l2 l3 => ho2 k (by omega) (by omega)) hR hX2), fun k hk => ho2 k (by omega) (by omega), rfl⟩
set_option maxRecDepth 100000 in
set_option maxHeartbeats 4000000 in
theorem ct_WM_weigh (l : Launch) (D : va_G) (dA : Nat → ClassId) (ad : Nat → Nat) (mm : Nat → gm_V) (r : Nat → va_E) {σ : sg} (hc : cs dA ad mm r σ) (hσ : sg_ok σ) (s x y : Int32) : gx_Ct l D dA yy_WM_weigh cc_WM_weigh 4 (some .long) 3 0 0 [.ref (ad 0), .int s, .int x, .int y] (gx_w ad (gm_h dA ad mm r)) (fun v w => ∃ mm2 r2, w = gx_w ad (gm_h dA ad mm2 r2) ∧ cs dA ad mm2 r2 (o_weigh σ s x y).2 ∧ (∀ k, 43 ≤ k → r2 k = r k) ∧ v = some (.long (o_weigh σ s x y).1)) := by
  refine gx_of (by decide) (Nat.le_of_ble_eq_true rfl) (fun K C _ _ => ?_)
  obtain ⟨π, f, hπ, hc0, hc1, hf, hM, hR⟩ := cs_get hc
  have hπ4 := hπ.1
  refine gx_iload_n C 1 dd_WM_weigh_0 (kk := ?_)
  refine gx_callS C (ct_WM_isSlot (gx_l K) D dA _ s) me_WM_isSlot ml_WM_76 ms_WM_isSlot dd_WM_weigh_1 (kk := fun v w hq => ?_)
  obtain ⟨rfl, rfl⟩ := hq
  refine gx_topi _ ix_b ?_
  rcases hi : ix 4 s with _ | i
  · refine gx_if_ne C 11 dd_WM_weigh_4 (fun h4 => absurd rfl h4) (fun h4 => ?_)
    refine gx_ldc2 C dd_WM_weigh_7 kc_WM_144 (kk := ?_)
    refine gx_lret C dd_WM_weigh_10 ?_
    have hsp : o_weigh σ s x y = (-1, σ) := by
      unfold o_weigh
      simp only [hi]
    rw [hsp]
    exact ⟨mm, r, rfl, hc, fun _ _ => rfl, rfl⟩
  · obtain ⟨hi4, rfl⟩ := ix_of (by decide) hi
    refine gx_if_ne C 11 dd_WM_weigh_4 (fun h4 => ?_) (fun h4 => absurd (show true = false from fb_0.mp h4) (by decide))
    refine gx_aload_n C 0 dd_WM_weigh_11 (kk := ?_)
    refine gx_get C fd_WM_51 (gm_r hc0) dd_WM_weigh_12 (kk := ?_)
    refine gx_aload_n C 0 dd_WM_weigh_15 (kk := ?_)
    refine gx_get C fd_WM_11 (gm_r hc0) dd_WM_weigh_16 (kk := ?_)
    refine gx_iload_n C 1 dd_WM_weigh_19 (kk := ?_)
    refine gz_slot C hc1 hf dd_WM_weigh_20 hi4 (kk := ?_)
    refine gx_iload_n C 2 dd_WM_weigh_21 (kk := ?_)
    refine gx_iload_n C 3 dd_WM_weigh_22 (kk := ?_)
    refine gx_callV C (ct_We_leastWeight (gx_l K) D dA ad mm r (ia := π i) (a := σ.1 i) (hπ.1 i (by omega)) (hM i hi4) (hσ.1 i hi4).1 (hσ.1 i hi4).2.2.1 (x := x) (y := y) hR.2.2.2.2.1) me_We_leastWeight ml_WM_146 mn_We_leastWeight _ (gx_w_at (by decide) (gm_r hR.2.2.2.2.1.1)) rfl dd_WM_weigh_23 (kk := fun v w hq => ?_)
    obtain ⟨r2, rfl, rfl, hw2, ho2⟩ := hq
    refine gx_lret C dd_WM_weigh_26 ?_
    have hsp : o_weigh σ (nI i) x y = (am_e (we_an (σ.1 i) x y), σ) := by
      unfold o_weigh
      simp only [hi]
    rw [hsp]
    exact ⟨mm, r2, rfl, cs_put hπ ((ho2 0 (by decide)).trans hc0) ((ho2 1 (by decide)).trans hc1) hf hM (cs_R_e (fun k l1 l2 l3 => ho2 k (by omega)) hR hw2), fun k hk => ho2 k (by omega), rfl⟩
set_option maxRecDepth 100000 in
set_option maxHeartbeats 4000000 in
theorem ct_WM_best (l : Launch) (D : va_G) (dA : Nat → ClassId) (ad : Nat → Nat) (mm : Nat → gm_V) (r : Nat → va_E) {σ : sg} (hc : cs dA ad mm r σ) (hσ : sg_ok σ) (s : Int32) : gx_Ct l D dA yy_WM_best cc_WM_best 3 (some .long) 4 0 0 [.ref (ad 0), .int s] (gx_w ad (gm_h dA ad mm r)) (fun v w => ∃ mm2 r2, w = gx_w ad (gm_h dA ad mm2 r2) ∧ cs dA ad mm2 r2 (o_best σ s).2 ∧ (∀ k, 43 ≤ k → r2 k = r k) ∧ v = some (.long (o_best σ s).1)) := by
  refine gx_of (by decide) (Nat.le_of_ble_eq_true rfl) (fun K C _ _ => ?_)
  obtain ⟨π, f, hπ, hc0, hc1, hf, hM, hR⟩ := cs_get hc
  have hπ4 := hπ.1
  refine gx_iload_n C 1 dd_WM_best_0 (kk := ?_)
  refine gx_callS C (ct_WM_isSlot (gx_l K) D dA _ s) me_WM_isSlot ml_WM_76 ms_WM_isSlot dd_WM_best_1 (kk := fun v w hq => ?_)
  obtain ⟨rfl, rfl⟩ := hq
  refine gx_topi _ ix_b ?_
  rcases hi : ix 4 s with _ | i
  · refine gx_if_ne C 11 dd_WM_best_4 (fun h4 => absurd rfl h4) (fun h4 => ?_)
    refine gx_ldc2 C dd_WM_best_7 kc_WM_144 (kk := ?_)
    refine gx_lret C dd_WM_best_10 ?_
    have hsp : o_best σ s = (-1, σ) := by
      unfold o_best
      simp only [hi]
    rw [hsp]
    exact ⟨mm, r, rfl, hc, fun _ _ => rfl, rfl⟩
  · obtain ⟨hi4, rfl⟩ := ix_of (by decide) hi
    refine gx_if_ne C 11 dd_WM_best_4 (fun h4 => ?_) (fun h4 => absurd (show true = false from fb_0.mp h4) (by decide))
    have hok := hσ.1 i hi4
    have hn16 := hok.1.1
    obtain ⟨f0, hc29, hc30⟩ := hR.2.2.2.1
    skip
    · refine gx_aload_n C 0 dd_WM_best_11 (kk := ?_)
      refine gx_get C fd_WM_11 (gm_r hc0) dd_WM_best_12 (kk := ?_)
      refine gx_iload_n C 1 dd_WM_best_15 (kk := ?_)
      refine gz_slot C hc1 hf dd_WM_best_16 hi4 (kk := ?_)
      refine gx_astore_n C _ dd_WM_best_17 (kk := ?_)
      refine gx_aload_n C 1 dd_WM_best_18 (kk := ?_)
      refine gx_get C fd_WM_44 (gm_r hc0) dd_WM_best_19 (kk := ?_)
      refine gx_aload_n C 0 dd_WM_best_22 (kk := ?_)
      refine gx_callV C (ct_On_look (gx_l K) D dA ad mm r (ia := π i) (a := σ.1 i) (hπ.1 i (by omega)) (hM i hi4) hok.1 hok.2.2.1 hc29 hc30) me_On_look ml_WM_134 mn_On_look _ (gx_w_at (by decide) (gm_r hc29)) rfl dd_WM_best_23 (kk := fun v w hq => ?_)
      obtain ⟨rfl, f2, v2, rfl, hin, hfx, hvb⟩ := hq
      have hv2 := ls_one hfx (on_of_fix hok)
      subst hv2
      obtain ⟨r1, hr1⟩ : ∃ r1, r1 = (va_up r 30 (.inl (dA 1, 16, .inr (.inl f2)))) := ⟨_, rfl⟩
      rw [← hr1]
      have ho1 : ∀ k, k ≠ 30 → r1 k = r k := fun k hk => by rw [hr1, gm_un hk]
      have h29 : r1 29 = .inr (5, [.ref (ad 30)]) := (ho1 29 (by decide)).trans hc29
      have h30 : r1 30 = .inl (dA 1, 16, .inr (.inl f2)) := by rw [hr1, gm_us]
      have h01 : r1 0 = wm_c ad (π 4) := (ho1 0 (by decide)).trans hc0
      have hc11 : r1 1 = wm_f dA f := (ho1 1 (by decide)).trans hc1
      have hR1 : cs_R dA ad r1 σ := cs_R_d (fun k l1 l2 l3 => ho1 k (by omega)) hR ⟨f2, h29, h30⟩
      rcases hst : am_st (σ.1 i) with _ | x
      · have hsq := (hM i hi4).2.1
        rw [hst] at hsq
        refine gx_aload_n C 0 dd_WM_best_26 (kk := ?_)
        refine gm_get C fd_WM_150 (hπ.1 i (by omega)) dd_WM_best_27 (kk := ?_)
        refine gx_topi _ hsq.1 ?_
        refine gx_iconst (v := -1) C dd_WM_best_30 (kk := ?_)
        refine gx_icmp_eq C 48 dd_WM_best_31 (fun h31 => ?_) (fun h31 => absurd rfl h31)
        refine gx_ldc2 C dd_WM_best_48 kc_WM_144 (kk := ?_)
        refine gx_lret C dd_WM_best_51 ?_
        have hsp : o_best σ (nI i) = (-1, σ) := by
          unfold o_best
          simp only [hi, hst]
        rw [hsp]
        exact ⟨mm, r1, rfl, cs_put hπ h01 hc11 hf hM hR1, fun k hk => ho1 k (by omega), rfl⟩
      · have hsq := (hM i hi4).2.1
        rw [hst] at hsq
        have hxb := hok.1.2.2.2.2 x hst
        have hxn := hok.2.2.2.1 x hst
        refine gx_aload_n C 0 dd_WM_best_26 (kk := ?_)
        refine gm_get C fd_WM_150 (hπ.1 i (by omega)) dd_WM_best_27 (kk := ?_)
        refine gx_topi _ hsq.1 ?_
        refine gx_iconst (v := -1) C dd_WM_best_30 (kk := ?_)
        refine gx_icmp_eq C 48 dd_WM_best_31 (fun h31 => absurd h31 (nI_m1 (by omega))) (fun h31 => ?_)
        refine gx_aload_n C 1 dd_WM_best_34 (kk := ?_)
        refine gx_get C fd_WM_44 (gm_r h01) dd_WM_best_35 (kk := ?_)
        refine gx_aload_n C 0 dd_WM_best_38 (kk := ?_)
        refine gm_get C fd_WM_150 (hπ.1 i (by omega)) dd_WM_best_39 (kk := ?_)
        refine gx_topi _ hsq.1 ?_
        refine gx_callV C (ct_On_isThere (gx_l K) D dA ad mm r1 h29 h30 (q := x.1) (o := on_of (σ.1 i) x.1) (by omega) (hin _ (by omega)) (fun c hc => by have := hvb _ _ hc; omega)) me_On_isThere ml_WM_153 mn_On_isThere _ (gx_w_at (by decide) (gm_r h29)) rfl dd_WM_best_42 (kk := fun v w hq => ?_)
        obtain ⟨rfl, rfl⟩ := hq
        rcases hcc : on_of (σ.1 i) x.1 with _ | c
        · refine gx_if_ne C 52 dd_WM_best_45 (fun h45 => absurd rfl h45) (fun h45 => ?_)
          refine gx_ldc2 C dd_WM_best_48 kc_WM_144 (kk := ?_)
          refine gx_lret C dd_WM_best_51 ?_
          have hsp : o_best σ (nI i) = (-1, σ) := by
            unfold o_best
            simp only [hi, hst, hcc]
          rw [hsp]
          exact ⟨mm, r1, rfl, cs_put hπ h01 hc11 hf hM hR1, fun k hk => ho1 k (by omega), rfl⟩
        · obtain ⟨hb37, fk, fw, hb38, hb39, -⟩ := hR1.2.2.2.2.2.2.1
          refine gx_if_ne C 52 dd_WM_best_45 (fun h45 => ?_) (fun h45 => absurd (show true = false from fb_0.mp h45) (by decide))
          refine gx_aload_n C 1 dd_WM_best_52 (kk := ?_)
          refine gx_get C fd_WM_58 (gm_r h01) dd_WM_best_53 (kk := ?_)
          refine gx_aload_n C 0 dd_WM_best_56 (kk := ?_)
          refine gx_aload_n C 1 dd_WM_best_57 (kk := ?_)
          refine gx_get C fd_WM_44 (gm_r h01) dd_WM_best_58 (kk := ?_)
          refine gx_callV C (ct_BP_keep (gx_l K) D dA ad mm r1 (ia := π i) (a := σ.1 i) (hπ.1 i (by omega)) (hM i hi4) hok.1 hok.2.2.1 hok.2.1 h29 h30 (nv := on_of (σ.1 i)) hin hvb (s0 := x.1) (c := c) (by omega) hsq.1 hcc hb37 hb38 hb39) me_BP_keep ml_WM_156 mn_BP_keep _ (gx_w_at (by decide) (gm_r hb37)) rfl dd_WM_best_61 (kk := fun v w hq => ?_)
          obtain ⟨rfl, r2, rfl, hbp, ho2⟩ := hq
          refine gx_aload_n C 0 dd_WM_best_64 (kk := ?_)
          refine gm_get C fd_WM_160 (hπ.1 i (by omega)) dd_WM_best_65 (kk := ?_)
          refine gx_topl _ hsq.2 ?_
          refine gx_aload_n C 1 dd_WM_best_68 (kk := ?_)
          refine gx_get C fd_WM_44 (gm_r ((ho2 0 (by decide) (by decide) (by decide)).trans h01)) dd_WM_best_69 (kk := ?_)
          refine gx_aload_n C 0 dd_WM_best_72 (kk := ?_)
          refine gm_get C fd_WM_150 (hπ.1 i (by omega)) dd_WM_best_73 (kk := ?_)
          refine gx_topi _ hsq.1 ?_
          refine gx_callV C (ct_On_weightOf (gx_l K) D dA ad mm r2 ((ho2 29 (by decide) (by decide) (by decide)).trans h29) ((ho2 30 (by decide) (by decide) (by decide)).trans h30) (q := x.1) (c := c) (by omega) (by rw [hin _ (by omega), hcc]; rfl) (by have := hvb _ _ hcc; omega)) me_On_weightOf ml_WM_164 mn_On_weightOf _ (gx_w_at (by decide) (gm_r ((ho2 29 (by decide) (by decide) (by decide)).trans h29))) rfl dd_WM_best_76 (kk := fun v w hq => ?_)
          obtain ⟨rfl, rfl⟩ := hq
          refine gx_ladd C dd_WM_best_79 (kk := ?_)
          refine gx_topl _ (lN_add _ _) ?_
          refine gx_lret C dd_WM_best_80 ?_
          have hsp : o_best σ (nI i) = (lN (x.2 + c / 32), (σ.1, on_path (am_ar (σ.1 i)) (on_of (σ.1 i)) (min (c % 32) 16) x.1, σ.2.2)) := by
            unfold o_best
            simp only [hi, hst, hcc]
          rw [hsp]
          exact ⟨mm, r2, rfl, cs_put hπ ((ho2 0 (by decide) (by decide) (by decide)).trans h01) ((ho2 1 (by decide) (by decide) (by decide)).trans hc11) hf hM (cs_R_p (fun k l1 l2 l3 => ho2 k (by omega) (by omega) (by omega)) hR1 hbp), fun k hk => (ho2 k (by omega) (by omega) (by omega)).trans (ho1 k (by omega)), rfl⟩
def fd_sh : Nat → Int32
  | 0 => -8
  | m + 1 => nI (8 * m)
theorem fd_sh_s (m : Nat) : nI (8 * m) + (-8) = fd_sh m := by
  cases m with
  | zero => decide
  | succ m =>
    show nI (8 * (m + 1)) + (-8) = nI (8 * m)
    rw [show (-8 : Int32) = -(nI 8) by decide, ← Int32.sub_eq_add_neg, pk_sub (by omega)]
    congr 1
theorem ix_9 (n : Int32) : ix 9 n = none ∨ n = nI 0 ∨ ∃ m0, m0 < 8 ∧ n = nI (m0 + 1) := by
  rcases hn : ix 9 n with _ | j
  · exact Or.inl rfl
  · obtain ⟨hj, rfl⟩ := ix_of (by decide) hn
    rcases j with _ | m0
    · exact Or.inr (Or.inl rfl)
    · exact Or.inr (Or.inr ⟨m0, by omega, rfl⟩)
theorem lt_ds_len (x : Int64) : ∀ m, (lt_ds x m).length = m
  | 0 => rfl
  | m + 1 => by rw [lt_ds, List.length_cons, lt_ds_len x m]
set_option maxRecDepth 100000 in
set_option maxHeartbeats 4000000 in
theorem ct_WM_feed (l : Launch) (D : va_G) (dA : Nat → ClassId) (ad : Nat → Nat) (mm : Nat → gm_V) (r : Nat → va_E) {σ : sg} (hc : cs dA ad mm r σ) (hσ : sg_ok σ) (x : Int64) (n : Int32) : gx_Ct l D dA yy_WM_feed cc_WM_feed 5 (some .int) 1 0 0 [.ref (ad 0), .long x, .int n] (gx_w ad (gm_h dA ad mm r)) (fun v w => ∃ mm2 r2, w = gx_w ad (gm_h dA ad mm2 r2) ∧ cs dA ad mm2 r2 (o_feed σ x n).2 ∧ (∀ k, 43 ≤ k → r2 k = r k) ∧ v = some (.int (o_feed σ x n).1)) := by
  refine gx_of (by decide) (Nat.le_of_ble_eq_true rfl) (fun K C _ _ => ?_)
  obtain ⟨π, f, hπ, hc0, hc1, hf, hM, hR⟩ := cs_get hc
  have hπ4 := hπ.1
  have hX := hR.2.2.2.2.2.2.2
  have hl16 := hX.2.2.1
  have loop : ∀ n0 n, n = nI n0 → o_feed σ x n = (nI (σ.2.2.length + n0), (σ.1, σ.2.1, σ.2.2 ++ lt_ds x n0)) → ∀ m Y r1, Y.length + m ≤ 1600 → m ≤ 8 → te_at dA ad r1 Y → σ.2.2 ++ lt_ds x n0 = Y ++ lt_ds x m → (∀ k, k ≠ 40 → k ≠ 41 → r1 k = r k) → gx_G K D 5 0 0 57 [(4, .int (fd_sh m)), (0, .ref (ad 0)), (1, .long x), (3, .int (nI n0))] [] (gx_w ad (gm_h dA ad mm r1)) (gx_Z K D dA 0 0 (fun v w => ∃ mm2 r2, w = gx_w ad (gm_h dA ad mm2 r2) ∧ cs dA ad mm2 r2 (o_feed σ x n).2 ∧ (∀ k, 43 ≤ k → r2 k = r k) ∧ v = some (.int (o_feed σ x n).1))) := by
    intro n0 n hn0 hsp
    subst hn0
    have loop : ∀ m Y r1, Y.length + m ≤ 1600 → m ≤ 8 → te_at dA ad r1 Y → σ.2.2 ++ lt_ds x n0 = Y ++ lt_ds x m → (∀ k, k ≠ 40 → k ≠ 41 → r1 k = r k) → gx_G K D 5 0 0 57 [(4, .int (fd_sh m)), (0, .ref (ad 0)), (1, .long x), (3, .int (nI n0))] [] (gx_w ad (gm_h dA ad mm r1)) (gx_Z K D dA 0 0 (fun v w => ∃ mm2 r2, w = gx_w ad (gm_h dA ad mm2 r2) ∧ cs dA ad mm2 r2 (o_feed σ x (nI n0)).2 ∧ (∀ k, 43 ≤ k → r2 k = r k) ∧ v = some (.int (o_feed σ x (nI n0)).1))) := by
      intro m
      induction m with
      | zero =>
        intro Y r1 hYl hm8 h1 hE ho1
        have hc0a : r1 0 = wm_c ad (π 4) := (ho1 0 (by decide) (by decide)).trans hc0
        refine gx_iload C 0 dd_WM_feed_57 (kk := ?_)
        refine gx_if_lt C 84 dd_WM_feed_59 (fun h59 => ?_) (fun h59 => absurd (by decide) h59)
        refine gx_aload_n C 1 dd_WM_feed_84 (kk := ?_)
        refine gx_get C fd_WM_65 (gm_r hc0a) dd_WM_feed_85 (kk := ?_)
        refine gx_get C fd_WM_191 (gm_r h1.1) dd_WM_feed_88 (kk := ?_)
        refine gx_iret C dd_WM_feed_91 ?_
        have hY : σ.2.2 ++ lt_ds x n0 = Y := by rw [hE]; exact List.append_nil _
        have hlen : Y.length = σ.2.2.length + n0 := by rw [← hY, List.length_append, lt_ds_len]
        rw [hsp]
        exact ⟨mm, r1, rfl, cs_put hπ hc0a ((ho1 1 (by decide) (by decide)).trans hc1) hf hM (cs_R_t (fun k l1 l2 l3 => ho1 k (by omega) (by omega)) hR (by rw [hY]; exact h1)), fun k hk => ho1 k (by omega) (by omega), by rw [← hlen]⟩
      | succ m ih =>
        intro Y r1 hYl hm8 h1 hE ho1
        have hc0a : r1 0 = wm_c ad (π 4) := (ho1 0 (by decide) (by decide)).trans hc0
        have hlb := lt_b_lt x m
        refine gx_iload C 0 dd_WM_feed_57 (kk := ?_)
        refine gx_if_lt C 84 dd_WM_feed_59 (fun h59 => absurd h59 (nI_pos (n := 8 * m) (by omega))) (fun h59 => ?_)
        refine gx_aload_n C 1 dd_WM_feed_62 (kk := ?_)
        refine gx_get C fd_WM_65 (gm_r hc0a) dd_WM_feed_63 (kk := ?_)
        refine gx_lload_n C 2 dd_WM_feed_66 (kk := ?_)
        refine gx_iload C 0 dd_WM_feed_67 (kk := ?_)
        refine gx_lshr C dd_WM_feed_69 (w := x >>> ((nI (8 * m)).toInt64 &&& 63)) (hv := rfl) (kk := ?_)
        refine gx_ldc2 C dd_WM_feed_70 kc_WM_199 (kk := ?_)
        refine gx_land C dd_WM_feed_73 (kk := ?_)
        refine gx_topl (lN (lt_b x m)) (lt_shr x (by omega)) ?_
        refine gx_l2i C dd_WM_feed_74 (w := nI (lt_b x m)) (hv := lN_i _) (kk := ?_)
        refine gx_callV C (ct_Te_put (gx_l K) D dA ad mm r1 h1 (c := lt_b x m) (by omega)) me_Te_put ml_WM_201 mn_Te_put _ (gx_w_at (by decide) (gm_r h1.1)) rfl dd_WM_feed_75 (kk := fun v w hq => ?_)
        obtain ⟨rfl, r2, rfl, h2, ho2⟩ := hq
        have h2 : te_at dA ad r2 (te_pt Y (lt_b x m)) := h2
        rw [te_pt, if_pos (by omega)] at h2
        refine gx_iinc C 0 (fd_sh m) _ dd_WM_feed_78 (fd_sh_s m) (kk := ?_)
        refine gx_goto C 57 dd_WM_feed_81 (kk := ?_)
        exact ih (Y ++ [lt_b x m]) r2 (by rw [List.length_append]; show Y.length + 1 + m ≤ 1600; omega) (by omega) h2 (by rw [hE, lt_ds, List.append_assoc]; rfl) (fun k a b => (ho2 k a b).trans (ho1 k a b))
    exact loop
  rcases ix_9 n with hn | rfl | ⟨m0, hm0, rfl⟩
  · refine gx_iload_n C 2 dd_WM_feed_0 (kk := ?_)
    refine gx_if_ne C 14 dd_WM_feed_1 (fun h1 => ?_) (fun h1 => absurd hn (by rw [h1]; decide))
    refine gx_iload_n C 2 dd_WM_feed_14 (kk := ?_)
    refine gx_if_lt C 47 dd_WM_feed_15 (fun h15 => ?_) (fun h15 => ?_)
    · refine gx_iconst (v := -1) C dd_WM_feed_47 (kk := ?_)
      refine gx_iret C dd_WM_feed_48 ?_
      have hsp : o_feed σ x n = (-1, σ) := by
        unfold o_feed
        simp only [hn]
      rw [hsp]
      exact ⟨mm, r, rfl, hc, fun _ _ => rfl, rfl⟩
    · refine gx_iload_n C 2 dd_WM_feed_18 (kk := ?_)
      refine gx_bipush (v := nI 8) C dd_WM_feed_19 (kk := ?_)
      refine gx_icmp_gt C 47 dd_WM_feed_21 (fun h21 => ?_) (fun h21 => absurd (Int32.not_lt.mp h21) (ix_nle (m := 8) (by decide) hn h15))
      refine gx_iconst (v := -1) C dd_WM_feed_47 (kk := ?_)
      refine gx_iret C dd_WM_feed_48 ?_
      have hsp : o_feed σ x n = (-1, σ) := by
        unfold o_feed
        simp only [hn]
      rw [hsp]
      exact ⟨mm, r, rfl, hc, fun _ _ => rfl, rfl⟩
  · have hn : ix 9 (nI 0) = some 0 := ix_some (by decide) (by decide)
    refine gx_iload_n C 2 dd_WM_feed_0 (kk := ?_)
    refine gx_if_ne C 14 dd_WM_feed_1 (fun h1 => absurd rfl h1) (fun h1 => ?_)
    refine gx_aload_n C 0 dd_WM_feed_4 (kk := ?_)
    refine gx_get C fd_WM_65 (gm_r hc0) dd_WM_feed_5 (kk := ?_)
    refine gx_iconst (v := nI 0) C dd_WM_feed_8 (kk := ?_)
    refine gz_put C fw_WM_191 hX.1 dd_WM_feed_9 (kk := fun r1 hr1 => ?_)
    have ho1 : ∀ k, k ≠ 40 → r1 k = r k := fun k hk => by rw [hr1, gm_un hk]
    have h1 : te_at dA ad r1 [] := by
      obtain ⟨g, hg, -⟩ := hX.2.1
      exact ⟨by rw [hr1, gm_us]; rfl, ⟨g, (ho1 41 (by decide)).trans hg, fun j c h => by cases h⟩, Nat.zero_le _, fun c h => by cases h⟩
    refine gx_iconst (v := nI 0) C dd_WM_feed_12 (kk := ?_)
    refine gx_iret C dd_WM_feed_13 ?_
    have hsp : o_feed σ x (nI 0) = (nI 0, (σ.1, σ.2.1, [])) := by
      unfold o_feed
      simp only [hn]
    rw [hsp]
    exact ⟨mm, r1, rfl, cs_put hπ ((ho1 0 (by decide)).trans hc0) ((ho1 1 (by decide)).trans hc1) hf hM (cs_R_t (fun k l1 l2 l3 => ho1 k (by omega)) hR h1), fun k hk => ho1 k (by omega), rfl⟩
  · have hn : ix 9 (nI (m0 + 1)) = some (m0 + 1) := ix_some (by omega) (by decide)
    refine gx_iload_n C 2 dd_WM_feed_0 (kk := ?_)
    refine gx_if_ne C 14 dd_WM_feed_1 (fun h1 => ?_) (fun h1 => absurd h1 (nI_ne0 (by omega) (by omega)))
    refine gx_iload_n C 2 dd_WM_feed_14 (kk := ?_)
    refine gx_if_lt C 47 dd_WM_feed_15 (fun h15 => absurd h15 (nI_pos (by omega))) (fun h15 => ?_)
    refine gx_iload_n C 2 dd_WM_feed_18 (kk := ?_)
    refine gx_bipush (v := nI 8) C dd_WM_feed_19 (kk := ?_)
    refine gx_icmp_gt C 47 dd_WM_feed_21 (fun h21 => absurd h21 (nI_nlt (by omega) (by omega))) (fun h21 => ?_)
    refine gx_aload_n C 0 dd_WM_feed_24 (kk := ?_)
    refine gx_get C fd_WM_65 (gm_r hc0) dd_WM_feed_25 (kk := ?_)
    refine gx_get C fd_WM_191 (gm_r hX.1) dd_WM_feed_28 (kk := ?_)
    refine gx_iload_n C 2 dd_WM_feed_31 (kk := ?_)
    refine gx_iadd C dd_WM_feed_32 (kk := ?_)
    refine gx_topi _ (nI_add _ _) ?_
    refine gx_sipush (v := nI 1600) C dd_WM_feed_33 (kk := ?_)
    refine gx_icmp_gt C 47 dd_WM_feed_36 (fun h36 => ?_) (fun h36 => ?_)
    · rw [nI_ltI (by decide) (by omega)] at h36
      refine gx_iconst (v := -1) C dd_WM_feed_47 (kk := ?_)
      refine gx_iret C dd_WM_feed_48 ?_
      have hsp : o_feed σ x (nI (m0 + 1)) = (-1, σ) := by
        unfold o_feed
        simp only [hn]
        rw [if_neg (fun e => by omega)]
      rw [hsp]
      exact ⟨mm, r, rfl, hc, fun _ _ => rfl, rfl⟩
    · rw [nI_ltI (by decide) (by omega)] at h36
      refine gx_lload_n C 1 dd_WM_feed_39 (kk := ?_)
      refine gx_iload_n C 2 dd_WM_feed_40 (kk := ?_)
      refine gx_callS C (ct_WM_areLetters (gx_l K) D dA _ x (n := m0 + 1) (by omega)) me_WM_areLetters ml_WM_195 ms_WM_areLetters dd_WM_feed_41 (kk := fun v w hq => ?_)
      obtain ⟨rfl, rfl⟩ := hq
      rcases hlt : lt_ok x (m0 + 1) with _ | _
      · refine gx_if_ne C 49 dd_WM_feed_44 (fun h44 => absurd rfl h44) (fun h44 => ?_)
        refine gx_iconst (v := -1) C dd_WM_feed_47 (kk := ?_)
        refine gx_iret C dd_WM_feed_48 ?_
        have hsp : o_feed σ x (nI (m0 + 1)) = (-1, σ) := by
          unfold o_feed
          simp only [hn]
          rw [if_neg (fun e => by rw [hlt] at e; exact absurd e.2 (by decide))]
        rw [hsp]
        exact ⟨mm, r, rfl, hc, fun _ _ => rfl, rfl⟩
      · refine gx_if_ne C 49 dd_WM_feed_44 (fun h44 => ?_) (fun h44 => absurd (show true = false from fb_0.mp h44) (by decide))
        refine gx_bipush (v := nI 8) C dd_WM_feed_49 (kk := ?_)
        refine gx_iload_n C 2 dd_WM_feed_51 (kk := ?_)
        refine gx_iconst (v := nI 1) C dd_WM_feed_52 (kk := ?_)
        refine gx_isub C dd_WM_feed_53 (kk := ?_)
        refine gx_topi (nI m0) (pk_sub (b := 1) (by omega)) ?_
        refine gx_imul C dd_WM_feed_54 (kk := ?_)
        refine gx_topi (fd_sh (m0 + 1)) (pk_mul 8 m0) ?_
        refine gx_istore C _ dd_WM_feed_55 (kk := ?_)
        have hsp : o_feed σ x (nI (m0 + 1)) = (nI (σ.2.2.length + (m0 + 1)), (σ.1, σ.2.1, σ.2.2 ++ lt_ds x (m0 + 1))) := by
          unfold o_feed
          simp only [hn]
          rw [if_pos ⟨by omega, hlt⟩]
        exact loop (m0 + 1) _ rfl hsp (m0 + 1) σ.2.2 r (by omega) (by omega) hX rfl (fun _ _ _ => rfl)
