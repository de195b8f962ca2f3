theorem dd_WM_isIn_0 : decode cc_WM_isIn 0 = .ok (.iload_n 0, 1) := by decide +kernel
theorem dd_WM_isIn_1 : decode cc_WM_isIn 1 = .ok (.iload_n 1, 1) := by decide +kernel
theorem dd_WM_isIn_2 : decode cc_WM_isIn 2 = .ok (.ishr, 1) := by decide +kernel
theorem dd_WM_isIn_3 : decode cc_WM_isIn 3 = .ok (.iconst 1, 1) := by decide +kernel
theorem dd_WM_isIn_4 : decode cc_WM_isIn 4 = .ok (.iand, 1) := by decide +kernel
theorem dd_WM_isIn_5 : decode cc_WM_isIn 5 = .ok (.ifCond .eq 7, 3) := by decide +kernel
theorem dd_WM_isIn_8 : decode cc_WM_isIn 8 = .ok (.iconst 1, 1) := by decide +kernel
theorem dd_WM_isIn_9 : decode cc_WM_isIn 9 = .ok (.goto 4, 3) := by decide +kernel
theorem dd_WM_isIn_12 : decode cc_WM_isIn 12 = .ok (.iconst 0, 1) := by decide +kernel
theorem dd_WM_isIn_13 : decode cc_WM_isIn 13 = .ok (.ireturn, 1) := by decide +kernel
theorem dd_Ma_statesAhead_0 : decode cc_Ma_statesAhead 0 = .ok (.aload_n 0, 1) := by decide +kernel
theorem dd_Ma_statesAhead_1 : decode cc_Ma_statesAhead 1 = .ok (.getfield 9, 3) := by decide +kernel
theorem dd_Ma_statesAhead_4 : decode cc_Ma_statesAhead 4 = .ok (.iconst (-1), 1) := by decide +kernel
theorem dd_Ma_statesAhead_5 : decode cc_Ma_statesAhead 5 = .ok (.if_icmp .ne 7, 3) := by decide +kernel
theorem dd_Ma_statesAhead_8 : decode cc_Ma_statesAhead 8 = .ok (.iconst 0, 1) := by decide +kernel
theorem dd_Ma_statesAhead_9 : decode cc_Ma_statesAhead 9 = .ok (.goto 9, 3) := by decide +kernel
theorem dd_Ma_statesAhead_12 : decode cc_Ma_statesAhead 12 = .ok (.iconst 1, 1) := by decide +kernel
theorem dd_Ma_statesAhead_13 : decode cc_Ma_statesAhead 13 = .ok (.aload_n 0, 1) := by decide +kernel
theorem dd_Ma_statesAhead_14 : decode cc_Ma_statesAhead 14 = .ok (.getfield 9, 3) := by decide +kernel
theorem dd_Ma_statesAhead_17 : decode cc_Ma_statesAhead 17 = .ok (.ishl, 1) := by decide +kernel
theorem dd_Ma_statesAhead_18 : decode cc_Ma_statesAhead 18 = .ok (.istore_n 1, 1) := by decide +kernel
theorem dd_Ma_statesAhead_19 : decode cc_Ma_statesAhead 19 = .ok (.iconst 0, 1) := by decide +kernel
theorem dd_Ma_statesAhead_20 : decode cc_Ma_statesAhead 20 = .ok (.istore_n 2, 1) := by decide +kernel
theorem dd_Ma_statesAhead_21 : decode cc_Ma_statesAhead 21 = .ok (.iload_n 2, 1) := by decide +kernel
theorem dd_Ma_statesAhead_22 : decode cc_Ma_statesAhead 22 = .ok (.aload_n 0, 1) := by decide +kernel
theorem dd_Ma_statesAhead_23 : decode cc_Ma_statesAhead 23 = .ok (.getfield 34, 3) := by decide +kernel
theorem dd_Ma_statesAhead_26 : decode cc_Ma_statesAhead 26 = .ok (.if_icmp .ge 55, 3) := by decide +kernel
theorem dd_Ma_statesAhead_29 : decode cc_Ma_statesAhead 29 = .ok (.iconst 0, 1) := by decide +kernel
theorem dd_Ma_statesAhead_30 : decode cc_Ma_statesAhead 30 = .ok (.istore_n 3, 1) := by decide +kernel
theorem dd_Ma_statesAhead_31 : decode cc_Ma_statesAhead 31 = .ok (.iload_n 3, 1) := by decide +kernel
theorem dd_Ma_statesAhead_32 : decode cc_Ma_statesAhead 32 = .ok (.aload_n 0, 1) := by decide +kernel
theorem dd_Ma_statesAhead_33 : decode cc_Ma_statesAhead 33 = .ok (.getfield 41, 3) := by decide +kernel
theorem dd_Ma_statesAhead_36 : decode cc_Ma_statesAhead 36 = .ok (.if_icmp .ge 39, 3) := by decide +kernel
theorem dd_Ma_statesAhead_39 : decode cc_Ma_statesAhead 39 = .ok (.iload_n 1, 1) := by decide +kernel
theorem dd_Ma_statesAhead_40 : decode cc_Ma_statesAhead 40 = .ok (.aload_n 0, 1) := by decide +kernel
theorem dd_Ma_statesAhead_41 : decode cc_Ma_statesAhead 41 = .ok (.getfield 27, 3) := by decide +kernel
theorem dd_Ma_statesAhead_44 : decode cc_Ma_statesAhead 44 = .ok (.iload_n 3, 1) := by decide +kernel
theorem dd_Ma_statesAhead_45 : decode cc_Ma_statesAhead 45 = .ok (.iaload, 1) := by decide +kernel
theorem dd_Ma_statesAhead_46 : decode cc_Ma_statesAhead 46 = .ok (.invokestatic 64, 3) := by decide +kernel
theorem dd_Ma_statesAhead_49 : decode cc_Ma_statesAhead 49 = .ok (.invokestatic 73, 3) := by decide +kernel
theorem dd_Ma_statesAhead_52 : decode cc_Ma_statesAhead 52 = .ok (.ifCond .eq 17, 3) := by decide +kernel
theorem dd_Ma_statesAhead_55 : decode cc_Ma_statesAhead 55 = .ok (.iload_n 1, 1) := by decide +kernel
theorem dd_Ma_statesAhead_56 : decode cc_Ma_statesAhead 56 = .ok (.iconst 1, 1) := by decide +kernel
theorem dd_Ma_statesAhead_57 : decode cc_Ma_statesAhead 57 = .ok (.aload_n 0, 1) := by decide +kernel
theorem dd_Ma_statesAhead_58 : decode cc_Ma_statesAhead 58 = .ok (.getfield 27, 3) := by decide +kernel
theorem dd_Ma_statesAhead_61 : decode cc_Ma_statesAhead 61 = .ok (.iload_n 3, 1) := by decide +kernel
theorem dd_Ma_statesAhead_62 : decode cc_Ma_statesAhead 62 = .ok (.iaload, 1) := by decide +kernel
theorem dd_Ma_statesAhead_63 : decode cc_Ma_statesAhead 63 = .ok (.invokestatic 67, 3) := by decide +kernel
theorem dd_Ma_statesAhead_66 : decode cc_Ma_statesAhead 66 = .ok (.ishl, 1) := by decide +kernel
theorem dd_Ma_statesAhead_67 : decode cc_Ma_statesAhead 67 = .ok (.ior, 1) := by decide +kernel
theorem dd_Ma_statesAhead_68 : decode cc_Ma_statesAhead 68 = .ok (.istore_n 1, 1) := by decide +kernel
theorem dd_Ma_statesAhead_69 : decode cc_Ma_statesAhead 69 = .ok (.iinc 3 1, 3) := by decide +kernel
theorem dd_Ma_statesAhead_72 : decode cc_Ma_statesAhead 72 = .ok (.goto (-41), 3) := by decide +kernel
theorem dd_Ma_statesAhead_75 : decode cc_Ma_statesAhead 75 = .ok (.iinc 2 1, 3) := by decide +kernel
theorem dd_Ma_statesAhead_78 : decode cc_Ma_statesAhead 78 = .ok (.goto (-57), 3) := by decide +kernel
theorem dd_Ma_statesAhead_81 : decode cc_Ma_statesAhead 81 = .ok (.iload_n 1, 1) := by decide +kernel
theorem dd_Ma_statesAhead_82 : decode cc_Ma_statesAhead 82 = .ok (.ireturn, 1) := by decide +kernel
theorem dd_Ma_statesBehind_0 : decode cc_Ma_statesBehind 0 = .ok (.iconst 0, 1) := by decide +kernel
theorem dd_Ma_statesBehind_1 : decode cc_Ma_statesBehind 1 = .ok (.istore_n 1, 1) := by decide +kernel
theorem dd_Ma_statesBehind_2 : decode cc_Ma_statesBehind 2 = .ok (.iconst 0, 1) := by decide +kernel
theorem dd_Ma_statesBehind_3 : decode cc_Ma_statesBehind 3 = .ok (.istore_n 2, 1) := by decide +kernel
theorem dd_Ma_statesBehind_4 : decode cc_Ma_statesBehind 4 = .ok (.iload_n 2, 1) := by decide +kernel
theorem dd_Ma_statesBehind_5 : decode cc_Ma_statesBehind 5 = .ok (.aload_n 0, 1) := by decide +kernel
theorem dd_Ma_statesBehind_6 : decode cc_Ma_statesBehind 6 = .ok (.getfield 34, 3) := by decide +kernel
theorem dd_Ma_statesBehind_9 : decode cc_Ma_statesBehind 9 = .ok (.if_icmp .ge 28, 3) := by decide +kernel
theorem dd_Ma_statesBehind_12 : decode cc_Ma_statesBehind 12 = .ok (.aload_n 0, 1) := by decide +kernel
theorem dd_Ma_statesBehind_13 : decode cc_Ma_statesBehind 13 = .ok (.getfield 15, 3) := by decide +kernel
theorem dd_Ma_statesBehind_16 : decode cc_Ma_statesBehind 16 = .ok (.iload_n 2, 1) := by decide +kernel
theorem dd_Ma_statesBehind_17 : decode cc_Ma_statesBehind 17 = .ok (.laload, 1) := by decide +kernel
theorem dd_Ma_statesBehind_18 : decode cc_Ma_statesBehind 18 = .ok (.ldc2_w 19, 3) := by decide +kernel
theorem dd_Ma_statesBehind_21 : decode cc_Ma_statesBehind 21 = .ok (.lcmp, 1) := by decide +kernel
theorem dd_Ma_statesBehind_22 : decode cc_Ma_statesBehind 22 = .ok (.ifCond .eq 9, 3) := by decide +kernel
theorem dd_Ma_statesBehind_25 : decode cc_Ma_statesBehind 25 = .ok (.iload_n 1, 1) := by decide +kernel
theorem dd_Ma_statesBehind_26 : decode cc_Ma_statesBehind 26 = .ok (.iconst 1, 1) := by decide +kernel
theorem dd_Ma_statesBehind_27 : decode cc_Ma_statesBehind 27 = .ok (.iload_n 2, 1) := by decide +kernel
theorem dd_Ma_statesBehind_28 : decode cc_Ma_statesBehind 28 = .ok (.ishl, 1) := by decide +kernel
theorem dd_Ma_statesBehind_29 : decode cc_Ma_statesBehind 29 = .ok (.ior, 1) := by decide +kernel
theorem dd_Ma_statesBehind_30 : decode cc_Ma_statesBehind 30 = .ok (.istore_n 1, 1) := by decide +kernel
theorem dd_Ma_statesBehind_31 : decode cc_Ma_statesBehind 31 = .ok (.iinc 2 1, 3) := by decide +kernel
theorem dd_Ma_statesBehind_34 : decode cc_Ma_statesBehind 34 = .ok (.goto (-30), 3) := by decide +kernel
theorem dd_Ma_statesBehind_37 : decode cc_Ma_statesBehind 37 = .ok (.iconst 0, 1) := by decide +kernel
theorem dd_Ma_statesBehind_38 : decode cc_Ma_statesBehind 38 = .ok (.istore_n 2, 1) := by decide +kernel
theorem dd_Ma_statesBehind_39 : decode cc_Ma_statesBehind 39 = .ok (.iload_n 2, 1) := by decide +kernel
theorem dd_Ma_statesBehind_40 : decode cc_Ma_statesBehind 40 = .ok (.aload_n 0, 1) := by decide +kernel
theorem dd_Ma_statesBehind_41 : decode cc_Ma_statesBehind 41 = .ok (.getfield 34, 3) := by decide +kernel
theorem dd_Ma_statesBehind_44 : decode cc_Ma_statesBehind 44 = .ok (.if_icmp .ge 55, 3) := by decide +kernel
theorem dd_Ma_statesBehind_47 : decode cc_Ma_statesBehind 47 = .ok (.iconst 0, 1) := by decide +kernel
theorem dd_Ma_statesBehind_48 : decode cc_Ma_statesBehind 48 = .ok (.istore_n 3, 1) := by decide +kernel
theorem dd_Ma_statesBehind_49 : decode cc_Ma_statesBehind 49 = .ok (.iload_n 3, 1) := by decide +kernel
theorem dd_Ma_statesBehind_50 : decode cc_Ma_statesBehind 50 = .ok (.aload_n 0, 1) := by decide +kernel
theorem dd_Ma_statesBehind_51 : decode cc_Ma_statesBehind 51 = .ok (.getfield 41, 3) := by decide +kernel
theorem dd_Ma_statesBehind_54 : decode cc_Ma_statesBehind 54 = .ok (.if_icmp .ge 39, 3) := by decide +kernel
theorem dd_Ma_statesBehind_57 : decode cc_Ma_statesBehind 57 = .ok (.iload_n 1, 1) := by decide +kernel
theorem dd_Ma_statesBehind_58 : decode cc_Ma_statesBehind 58 = .ok (.aload_n 0, 1) := by decide +kernel
theorem dd_Ma_statesBehind_59 : decode cc_Ma_statesBehind 59 = .ok (.getfield 27, 3) := by decide +kernel
theorem dd_Ma_statesBehind_62 : decode cc_Ma_statesBehind 62 = .ok (.iload_n 3, 1) := by decide +kernel
theorem dd_Ma_statesBehind_63 : decode cc_Ma_statesBehind 63 = .ok (.iaload, 1) := by decide +kernel
theorem dd_Ma_statesBehind_64 : decode cc_Ma_statesBehind 64 = .ok (.invokestatic 67, 3) := by decide +kernel
theorem dd_Ma_statesBehind_67 : decode cc_Ma_statesBehind 67 = .ok (.invokestatic 73, 3) := by decide +kernel
theorem dd_Ma_statesBehind_70 : decode cc_Ma_statesBehind 70 = .ok (.ifCond .eq 17, 3) := by decide +kernel
theorem dd_Ma_statesBehind_73 : decode cc_Ma_statesBehind 73 = .ok (.iload_n 1, 1) := by decide +kernel
theorem dd_Ma_statesBehind_74 : decode cc_Ma_statesBehind 74 = .ok (.iconst 1, 1) := by decide +kernel
theorem dd_Ma_statesBehind_75 : decode cc_Ma_statesBehind 75 = .ok (.aload_n 0, 1) := by decide +kernel
theorem dd_Ma_statesBehind_76 : decode cc_Ma_statesBehind 76 = .ok (.getfield 27, 3) := by decide +kernel
theorem dd_Ma_statesBehind_79 : decode cc_Ma_statesBehind 79 = .ok (.iload_n 3, 1) := by decide +kernel
theorem dd_Ma_statesBehind_80 : decode cc_Ma_statesBehind 80 = .ok (.iaload, 1) := by decide +kernel
theorem dd_Ma_statesBehind_81 : decode cc_Ma_statesBehind 81 = .ok (.invokestatic 64, 3) := by decide +kernel
theorem dd_Ma_statesBehind_84 : decode cc_Ma_statesBehind 84 = .ok (.ishl, 1) := by decide +kernel
theorem dd_Ma_statesBehind_85 : decode cc_Ma_statesBehind 85 = .ok (.ior, 1) := by decide +kernel
theorem dd_Ma_statesBehind_86 : decode cc_Ma_statesBehind 86 = .ok (.istore_n 1, 1) := by decide +kernel
theorem dd_Ma_statesBehind_87 : decode cc_Ma_statesBehind 87 = .ok (.iinc 3 1, 3) := by decide +kernel
theorem dd_Ma_statesBehind_90 : decode cc_Ma_statesBehind 90 = .ok (.goto (-41), 3) := by decide +kernel
theorem dd_Ma_statesBehind_93 : decode cc_Ma_statesBehind 93 = .ok (.iinc 2 1, 3) := by decide +kernel
theorem dd_Ma_statesBehind_96 : decode cc_Ma_statesBehind 96 = .ok (.goto (-57), 3) := by decide +kernel
theorem dd_Ma_statesBehind_99 : decode cc_Ma_statesBehind 99 = .ok (.iload_n 1, 1) := by decide +kernel
theorem dd_Ma_statesBehind_100 : decode cc_Ma_statesBehind 100 = .ok (.ireturn, 1) := by decide +kernel
theorem dd_Ma_copiesLabels_0 : decode cc_Ma_copiesLabels 0 = .ok (.iconst 0, 1) := by decide +kernel
theorem dd_Ma_copiesLabels_1 : decode cc_Ma_copiesLabels 1 = .ok (.istore_n 1, 1) := by decide +kernel
theorem dd_Ma_copiesLabels_2 : decode cc_Ma_copiesLabels 2 = .ok (.iload_n 1, 1) := by decide +kernel
theorem dd_Ma_copiesLabels_3 : decode cc_Ma_copiesLabels 3 = .ok (.aload_n 0, 1) := by decide +kernel
theorem dd_Ma_copiesLabels_4 : decode cc_Ma_copiesLabels 4 = .ok (.getfield 41, 3) := by decide +kernel
theorem dd_Ma_copiesLabels_7 : decode cc_Ma_copiesLabels 7 = .ok (.if_icmp .ge 44, 3) := by decide +kernel
theorem dd_Ma_copiesLabels_10 : decode cc_Ma_copiesLabels 10 = .ok (.aload_n 0, 1) := by decide +kernel
theorem dd_Ma_copiesLabels_11 : decode cc_Ma_copiesLabels 11 = .ok (.getfield 27, 3) := by decide +kernel
theorem dd_Ma_copiesLabels_14 : decode cc_Ma_copiesLabels 14 = .ok (.iload_n 1, 1) := by decide +kernel
theorem dd_Ma_copiesLabels_15 : decode cc_Ma_copiesLabels 15 = .ok (.iaload, 1) := by decide +kernel
theorem dd_Ma_copiesLabels_16 : decode cc_Ma_copiesLabels 16 = .ok (.invokestatic 77, 3) := by decide +kernel
theorem dd_Ma_copiesLabels_19 : decode cc_Ma_copiesLabels 19 = .ok (.ifCond .eq 24, 3) := by decide +kernel
theorem dd_Ma_copiesLabels_22 : decode cc_Ma_copiesLabels 22 = .ok (.aload_n 0, 1) := by decide +kernel
theorem dd_Ma_copiesLabels_23 : decode cc_Ma_copiesLabels 23 = .ok (.getfield 27, 3) := by decide +kernel
theorem dd_Ma_copiesLabels_26 : decode cc_Ma_copiesLabels 26 = .ok (.iload_n 1, 1) := by decide +kernel
theorem dd_Ma_copiesLabels_27 : decode cc_Ma_copiesLabels 27 = .ok (.iaload, 1) := by decide +kernel
theorem dd_Ma_copiesLabels_28 : decode cc_Ma_copiesLabels 28 = .ok (.invokestatic 77, 3) := by decide +kernel
theorem dd_Ma_copiesLabels_31 : decode cc_Ma_copiesLabels 31 = .ok (.aload_n 0, 1) := by decide +kernel
theorem dd_Ma_copiesLabels_32 : decode cc_Ma_copiesLabels 32 = .ok (.getfield 27, 3) := by decide +kernel
theorem dd_Ma_copiesLabels_35 : decode cc_Ma_copiesLabels 35 = .ok (.iload_n 1, 1) := by decide +kernel
theorem dd_Ma_copiesLabels_36 : decode cc_Ma_copiesLabels 36 = .ok (.iaload, 1) := by decide +kernel
theorem dd_Ma_copiesLabels_37 : decode cc_Ma_copiesLabels 37 = .ok (.invokestatic 80, 3) := by decide +kernel
theorem dd_Ma_copiesLabels_40 : decode cc_Ma_copiesLabels 40 = .ok (.if_icmp .eq 5, 3) := by decide +kernel
theorem dd_Ma_copiesLabels_43 : decode cc_Ma_copiesLabels 43 = .ok (.iconst 0, 1) := by decide +kernel
theorem dd_Ma_copiesLabels_44 : decode cc_Ma_copiesLabels 44 = .ok (.ireturn, 1) := by decide +kernel
theorem dd_Ma_copiesLabels_45 : decode cc_Ma_copiesLabels 45 = .ok (.iinc 1 1, 3) := by decide +kernel
theorem dd_Ma_copiesLabels_48 : decode cc_Ma_copiesLabels 48 = .ok (.goto (-46), 3) := by decide +kernel
theorem dd_Ma_copiesLabels_51 : decode cc_Ma_copiesLabels 51 = .ok (.iconst 1, 1) := by decide +kernel
theorem dd_Ma_copiesLabels_52 : decode cc_Ma_copiesLabels 52 = .ok (.ireturn, 1) := by decide +kernel
theorem dd_Ma_hasCycle_0 : decode cc_Ma_hasCycle 0 = .ok (.iconst 1, 1) := by decide +kernel
theorem dd_Ma_hasCycle_1 : decode cc_Ma_hasCycle 1 = .ok (.aload_n 0, 1) := by decide +kernel
theorem dd_Ma_hasCycle_2 : decode cc_Ma_hasCycle 2 = .ok (.getfield 34, 3) := by decide +kernel
theorem dd_Ma_hasCycle_5 : decode cc_Ma_hasCycle 5 = .ok (.ishl, 1) := by decide +kernel
theorem dd_Ma_hasCycle_6 : decode cc_Ma_hasCycle 6 = .ok (.iconst 1, 1) := by decide +kernel
theorem dd_Ma_hasCycle_7 : decode cc_Ma_hasCycle 7 = .ok (.isub, 1) := by decide +kernel
theorem dd_Ma_hasCycle_8 : decode cc_Ma_hasCycle 8 = .ok (.istore_n 1, 1) := by decide +kernel
theorem dd_Ma_hasCycle_9 : decode cc_Ma_hasCycle 9 = .ok (.iconst 0, 1) := by decide +kernel
theorem dd_Ma_hasCycle_10 : decode cc_Ma_hasCycle 10 = .ok (.istore_n 2, 1) := by decide +kernel
theorem dd_Ma_hasCycle_11 : decode cc_Ma_hasCycle 11 = .ok (.iload_n 2, 1) := by decide +kernel
theorem dd_Ma_hasCycle_12 : decode cc_Ma_hasCycle 12 = .ok (.aload_n 0, 1) := by decide +kernel
theorem dd_Ma_hasCycle_13 : decode cc_Ma_hasCycle 13 = .ok (.getfield 34, 3) := by decide +kernel
theorem dd_Ma_hasCycle_16 : decode cc_Ma_hasCycle 16 = .ok (.if_icmp .ge 63, 3) := by decide +kernel
theorem dd_Ma_hasCycle_19 : decode cc_Ma_hasCycle 19 = .ok (.iconst 0, 1) := by decide +kernel
theorem dd_Ma_hasCycle_20 : decode cc_Ma_hasCycle 20 = .ok (.istore_n 3, 1) := by decide +kernel
theorem dd_Ma_hasCycle_21 : decode cc_Ma_hasCycle 21 = .ok (.iconst 0, 1) := by decide +kernel
theorem dd_Ma_hasCycle_22 : decode cc_Ma_hasCycle 22 = .ok (.istore 4, 2) := by decide +kernel
theorem dd_Ma_hasCycle_24 : decode cc_Ma_hasCycle 24 = .ok (.iload 4, 2) := by decide +kernel
theorem dd_Ma_hasCycle_26 : decode cc_Ma_hasCycle 26 = .ok (.aload_n 0, 1) := by decide +kernel
theorem dd_Ma_hasCycle_27 : decode cc_Ma_hasCycle 27 = .ok (.getfield 41, 3) := by decide +kernel
theorem dd_Ma_hasCycle_30 : decode cc_Ma_hasCycle 30 = .ok (.if_icmp .ge 41, 3) := by decide +kernel
theorem dd_Ma_hasCycle_33 : decode cc_Ma_hasCycle 33 = .ok (.iload_n 1, 1) := by decide +kernel
theorem dd_Ma_hasCycle_34 : decode cc_Ma_hasCycle 34 = .ok (.aload_n 0, 1) := by decide +kernel
theorem dd_Ma_hasCycle_35 : decode cc_Ma_hasCycle 35 = .ok (.getfield 27, 3) := by decide +kernel
theorem dd_Ma_hasCycle_38 : decode cc_Ma_hasCycle 38 = .ok (.iload 4, 2) := by decide +kernel
theorem dd_Ma_hasCycle_40 : decode cc_Ma_hasCycle 40 = .ok (.iaload, 1) := by decide +kernel
theorem dd_Ma_hasCycle_41 : decode cc_Ma_hasCycle 41 = .ok (.invokestatic 67, 3) := by decide +kernel
theorem dd_Ma_hasCycle_44 : decode cc_Ma_hasCycle 44 = .ok (.invokestatic 73, 3) := by decide +kernel
theorem dd_Ma_hasCycle_47 : decode cc_Ma_hasCycle 47 = .ok (.ifCond .eq 18, 3) := by decide +kernel
theorem dd_Ma_hasCycle_50 : decode cc_Ma_hasCycle 50 = .ok (.iload_n 3, 1) := by decide +kernel
theorem dd_Ma_hasCycle_51 : decode cc_Ma_hasCycle 51 = .ok (.iconst 1, 1) := by decide +kernel
theorem dd_Ma_hasCycle_52 : decode cc_Ma_hasCycle 52 = .ok (.aload_n 0, 1) := by decide +kernel
theorem dd_Ma_hasCycle_53 : decode cc_Ma_hasCycle 53 = .ok (.getfield 27, 3) := by decide +kernel
theorem dd_Ma_hasCycle_56 : decode cc_Ma_hasCycle 56 = .ok (.iload 4, 2) := by decide +kernel
theorem dd_Ma_hasCycle_58 : decode cc_Ma_hasCycle 58 = .ok (.iaload, 1) := by decide +kernel
theorem dd_Ma_hasCycle_59 : decode cc_Ma_hasCycle 59 = .ok (.invokestatic 64, 3) := by decide +kernel
theorem dd_Ma_hasCycle_62 : decode cc_Ma_hasCycle 62 = .ok (.ishl, 1) := by decide +kernel
theorem dd_Ma_hasCycle_63 : decode cc_Ma_hasCycle 63 = .ok (.ior, 1) := by decide +kernel
theorem dd_Ma_hasCycle_64 : decode cc_Ma_hasCycle 64 = .ok (.istore_n 3, 1) := by decide +kernel
theorem dd_Ma_hasCycle_65 : decode cc_Ma_hasCycle 65 = .ok (.iinc 4 1, 3) := by decide +kernel
theorem dd_Ma_hasCycle_68 : decode cc_Ma_hasCycle 68 = .ok (.goto (-44), 3) := by decide +kernel
theorem dd_Ma_hasCycle_71 : decode cc_Ma_hasCycle 71 = .ok (.iload_n 3, 1) := by decide +kernel
theorem dd_Ma_hasCycle_72 : decode cc_Ma_hasCycle 72 = .ok (.istore_n 1, 1) := by decide +kernel
theorem dd_Ma_hasCycle_73 : decode cc_Ma_hasCycle 73 = .ok (.iinc 2 1, 3) := by decide +kernel
theorem dd_Ma_hasCycle_76 : decode cc_Ma_hasCycle 76 = .ok (.goto (-65), 3) := by decide +kernel
theorem dd_Ma_hasCycle_79 : decode cc_Ma_hasCycle 79 = .ok (.iload_n 1, 1) := by decide +kernel
theorem dd_Ma_hasCycle_80 : decode cc_Ma_hasCycle 80 = .ok (.ifCond .eq 7, 3) := by decide +kernel
theorem dd_Ma_hasCycle_83 : decode cc_Ma_hasCycle 83 = .ok (.iconst 1, 1) := by decide +kernel
theorem dd_Ma_hasCycle_84 : decode cc_Ma_hasCycle 84 = .ok (.goto 4, 3) := by decide +kernel
theorem dd_Ma_hasCycle_87 : decode cc_Ma_hasCycle 87 = .ok (.iconst 0, 1) := by decide +kernel
theorem dd_Ma_hasCycle_88 : decode cc_Ma_hasCycle 88 = .ok (.ireturn, 1) := by decide +kernel
theorem bs_or (a b : Nat) : nI a ||| nI b = nI (a ||| b) := by
  apply Int32.toBitVec_inj.1
  show BitVec.ofNat 32 a ||| BitVec.ofNat 32 b = BitVec.ofNat 32 (a ||| b)
  apply BitVec.eq_of_getLsbD_eq
  intro i hi
  simp [hi]
theorem bs_and (a b : Nat) : nI a &&& nI b = nI (a &&& b) := by
  apply Int32.toBitVec_inj.1
  show BitVec.ofNat 32 a &&& BitVec.ofNat 32 b = BitVec.ofNat 32 (a &&& b)
  apply BitVec.eq_of_getLsbD_eq
  intro i hi
  simp [hi]
theorem bs_sl : ∀ n, n < 32 → ((nI n &&& 31).toBitVec.smod 32).toNat = n := by decide +kernel
theorem bs_shl {t : Nat} (h : t < 31) : nI 1 <<< (nI t &&& 31) = nI (2 ^ t) := by
  rw [pk_shlN _ t (bs_sl t (by omega)) (by rw [Nat.one_mul]; exact Nat.pow_lt_pow_right (by decide) (by omega)), Nat.one_mul]
def bs_in (b : Nat) (v : ls_V) : Prop := b < 65536 ∧ (∀ s, s < 16 → b.testBit s = (v s).isSome) ∧ ∀ s x, v s = some x → x = 0
theorem bs_2 {t : Nat} (h : t < 16) : 2 ^ t < 65536 := Nat.pow_lt_pow_right (n := 16) (by decide) h
theorem bs_rx {b f t : Nat} {v : ls_V} (h : bs_in b v) (hf : f < 16) (ht : t < 16) : bs_in (if b.testBit f = true then b ||| 2 ^ t else b) (ls_rx v (f, t, 0)) := by
  obtain ⟨h1, h2, h3⟩ := h
  cases hv : v f with
  | none =>
    have hb : b.testBit f = false := by rw [h2 f hf, hv]; rfl
    have hr : ls_rx v (f, t, 0) = v := by
      unfold ls_rx
      rw [if_neg]
      show ¬ ls_lt (ls_ad (v f) 0) (v t) = true
      rw [hv]
      exact fun q => by cases q
    rw [hr, hb]
    exact ⟨h1, h2, h3⟩
  | some y =>
    have hy := h3 f y hv
    subst hy
    have hb : b.testBit f = true := by rw [h2 f hf, hv]; rfl
    rw [if_pos hb]
    cases hw : v t with
    | none =>
      have hr : ls_rx v (f, t, 0) = va_up v t (some 0) := by
        unfold ls_rx
        show (if ls_lt (ls_ad (v f) 0) (v t) = true then va_up v t (ls_ad (v f) 0) else v) = _
        rw [hv, hw]
        rfl
      rw [hr]
      refine ⟨Nat.or_lt_two_pow (n := 16) h1 (bs_2 ht), fun s hs => ?_, fun s x hx => ?_⟩
      · rw [Nat.testBit_or, h2 s hs, Nat.testBit_two_pow]
        by_cases hst : s = t
        · subst hst
          simp [va_up]
        · simp [va_up, hst, Ne.symm hst]
      · by_cases hst : s = t
        · subst hst
          simp [va_up] at hx
          exact hx.symm
        · simp [va_up, hst] at hx
          exact h3 s x hx
    | some z =>
      have hz := h3 t z hw
      subst hz
      have hr : ls_rx v (f, t, 0) = v := by
        unfold ls_rx
        rw [if_neg]
        show ¬ ls_lt (ls_ad (v f) 0) (v t) = true
        rw [hv, hw]
        exact fun q => by cases q
      rw [hr]
      refine ⟨Nat.or_lt_two_pow (n := 16) h1 (bs_2 ht), fun s hs => ?_, h3⟩
      rw [Nat.testBit_or, h2 s hs, Nat.testBit_two_pow]
      by_cases hst : s = t
      · subst hst
        simp [hw]
      · simp [Ne.symm hst]
def am_xa (x : Nat × Nat) : ls_A := (x.1 / 1024, x.1 % 16, 0)
def am_xb (x : Nat × Nat) : ls_A := (x.1 % 16, x.1 / 1024, 0)
theorem am_map_s {α : Type} {l : List (Nat × Nat)} {j : Nat} {x : Nat × Nat} (g : Nat × Nat → α) (h : l[j]? = some x) : (l.take (j + 1)).map g = (l.take j).map g ++ [g x] := by
  rw [List.take_add_one, h]
  simp
/-- where the start stands, where ends are -/
def am_v0 (a : am_T) : ls_V := fun s => match am_st a with
  | none => none
  | some x => if s = x.1 then some 0 else none
def am_e0 (a : am_T) (n : Nat) : ls_V := fun s => if s < n ∧ am_en a s ≠ none then some 0 else none
theorem bs_v0 {a : am_T} (h : am_st a = none) : bs_in 0 (am_v0 a) := by
  refine ⟨by decide, fun s _ => ?_, fun s x hx => ?_⟩
  · simp [am_v0, h]
  · simp [am_v0, h] at hx
theorem bs_v1 {a : am_T} {x : Nat × Nat} (h : am_st a = some x) (hx : x.1 < 16) : bs_in (2 ^ x.1) (am_v0 a) := by
  refine ⟨bs_2 hx, fun s _ => ?_, fun s y hy => ?_⟩
  · rw [Nat.testBit_two_pow]
    by_cases hs : s = x.1
    · subst hs
      simp [am_v0, h]
    · simp [am_v0, h, hs, Ne.symm hs]
  · simp only [am_v0, h] at hy
    by_cases hs : s = x.1
    · rw [if_pos hs] at hy; exact (Option.some.inj hy).symm
    · rw [if_neg hs] at hy; cases hy
theorem bs_e0 (a : am_T) : bs_in 0 (am_e0 a 0) := by
  refine ⟨by decide, fun s _ => ?_, fun s x hx => ?_⟩
  · simp [am_e0]
  · simp [am_e0] at hx
theorem bs_e1 {a : am_T} {b j : Nat} (h : bs_in b (am_e0 a j)) (hj : j < 16) : bs_in (if am_en a j = none then b else b ||| 2 ^ j) (am_e0 a (j + 1)) := by
  obtain ⟨h1, h2, h3⟩ := h
  have hz : ∀ s x, am_e0 a (j + 1) s = some x → x = 0 := fun s x hx => by
    unfold am_e0 at hx
    by_cases hc : s < j + 1 ∧ am_en a s ≠ none
    · rw [if_pos hc] at hx; exact (Option.some.inj hx).symm
    · rw [if_neg hc] at hx; cases hx
  by_cases he : am_en a j = none
  · rw [if_pos he]
    refine ⟨h1, fun s hs => ?_, hz⟩
    rw [h2 s hs]
    unfold am_e0
    by_cases hs1 : s = j
    · subst hs1; simp [he]
    · simp [show s < j + 1 ↔ s < j by omega]
  · rw [if_neg he]
    refine ⟨Nat.or_lt_two_pow (n := 16) h1 (bs_2 hj), fun s hs => ?_, hz⟩
    rw [Nat.testBit_or, h2 s hs, Nat.testBit_two_pow]
    unfold am_e0
    by_cases hs1 : s = j
    · subst hs1; simp [he]
    · simp [show s < j + 1 ↔ s < j by omega, Ne.symm hs1]
set_option maxRecDepth 100000 in
set_option maxHeartbeats 4000000 in
theorem ct_WM_isIn (l : Launch) (D : va_G) (dA : Nat → ClassId) (ws : va_W) (b q : Nat) (hb : b < 2 ^ 31) (hq : q < 31) : gx_Ct l D dA yy_WM_isIn cc_WM_isIn 2 (some .boolean) 0 0 0 [.int (nI b), .int (nI q)] ws (fun v w => v = some (.int (nI (b.testBit q).toNat)) ∧ w = ws) := by
  refine gx_of (by decide) (Nat.le_of_ble_eq_true rfl) (fun K C _ _ => ?_)
  refine gx_iload_n C 0 dd_WM_isIn_0 (kk := ?_)
  refine gx_iload_n C 1 dd_WM_isIn_1 (kk := ?_)
  refine gx_ishr C dd_WM_isIn_2 (kk := ?_)
  refine gx_topi _ (pk_shrN (by omega) _ q (bs_sl q (by omega))) ?_
  refine gx_iconst (v := nI 1) C dd_WM_isIn_3 (kk := ?_)
  refine gx_iand C dd_WM_isIn_4 (kk := ?_)
  refine gx_topi _ (pk_andN (Nat.lt_of_le_of_lt (Nat.div_le_self _ _) (by omega)) 1 (by decide)) ?_
  refine gx_if_eq C 12 dd_WM_isIn_5 (fun h5 => ?_) (fun h5 => ?_)
  · refine gx_iconst (v := nI 0) C dd_WM_isIn_12 (kk := ?_)
    refine gx_zret C dd_WM_isIn_13 (by first | rfl | exact fb_nar) ?_
    rw [show (0 : Int32) = nI 0 from rfl, nI_eq (by omega) (by decide)] at h5
    refine ⟨?_, rfl⟩
    rw [Nat.testBit_eq_decide_div_mod_eq]
    rw [decide_eq_false (by omega)]
    rfl
  · refine gx_iconst (v := nI 1) C dd_WM_isIn_8 (kk := ?_)
    refine gx_goto C 13 dd_WM_isIn_9 (kk := ?_)
    refine gx_zret C dd_WM_isIn_13 (by first | rfl | exact fb_nar) ?_
    rw [show (0 : Int32) = nI 0 from rfl, nI_eq (by omega) (by decide)] at h5
    refine ⟨?_, rfl⟩
    rw [Nat.testBit_eq_decide_div_mod_eq]
    rw [decide_eq_true (by omega)]
    rfl
theorem nI_m1 {n : Nat} (h : n < 2 ^ 31) : ¬ nI n = -1 := fun e => by
  have h1 := nI_toInt h
  rw [e] at h1
  have h2 : (-1 : Int32).toInt = -1 := by decide
  rw [h2] at h1
  omega
set_option maxRecDepth 100000 in
set_option maxHeartbeats 4000000 in
theorem ct_Ma_statesAhead (l : Launch) (D : va_G) (dA : Nat → ClassId) (ad : Nat → Nat) (mm : Nat → gm_V) (r : Nat → va_E) {i : Nat} {a : am_T} (hi : i < 5) (hM : gm_is (mm i) a) (hn : am_n a ≤ 16) (hl : (am_ar a).length ≤ 64) (hb : ∀ x ∈ am_ar a, x.1 < 16384) (hnd : ∀ x ∈ am_ar a, x.1 / 1024 < am_n a ∧ x.1 % 16 < am_n a) (hst : ∀ x, am_st a = some x → x.1 < 16) (hen : ∀ q e, am_en a q = some e → e < 2 ^ 63) : gx_Ct l D dA yy_Ma_statesAhead cc_Ma_statesAhead 4 (some .int) 1 0 0 [.ref (ad (2 + 4 * i))] (gx_w ad (gm_h dA ad mm r)) (fun v w => w = (gx_w ad (gm_h dA ad mm r)) ∧ ∃ b v2, v = some (.int (nI b)) ∧ bs_in b v2 ∧ ls_fix ((am_ar a).map am_xa) (am_v0 a) v2) := by
  refine gx_of (by decide) (Nat.le_of_ble_eq_true rfl) (fun K C _ _ => ?_)
  have hE : ∀ e ∈ (am_ar a).map am_xa, e.1 < am_n a ∧ e.2.1 < am_n a := by
    intro e he
    obtain ⟨x, hx, rfl⟩ := List.mem_map.mp he
    exact hnd x hx
  have loop : ∀ m k b v1, k + m = am_n a → v1 = ls_it ((am_ar a).map am_xa) k (am_v0 a) → bs_in b v1 → gx_G K D 4 0 0 21 [(2, .int (nI k)), (1, .int (nI b)), (0, .ref (ad (2 + 4 * i)))] [] (gx_w ad (gm_h dA ad mm r)) (gx_Z K D dA 0 0 (fun v w => w = (gx_w ad (gm_h dA ad mm r)) ∧ ∃ b v2, v = some (.int (nI b)) ∧ bs_in b v2 ∧ ls_fix ((am_ar a).map am_xa) (am_v0 a) v2)) := by
    intro m
    induction m with
    | zero =>
      intro k b v1 hk hv hbs
      refine gx_iload_n C 0 dd_Ma_statesAhead_21 (kk := ?_)
      refine gx_aload_n C 2 dd_Ma_statesAhead_22 (kk := ?_)
      refine gm_get C fd_Ma_34 hi dd_Ma_statesAhead_23 (kk := ?_)
      refine gx_topi _ hM.1 ?_
      refine gx_icmp_ge C 81 dd_Ma_statesAhead_26 (fun h26 => ?_) (fun h26 => absurd (nI_le (a := am_n a) (b := k) (by omega) (by omega)) h26)
      refine gx_iload_n C 1 dd_Ma_statesAhead_81 (kk := ?_)
      refine gx_iret C dd_Ma_statesAhead_82 ?_
      refine ⟨rfl, b, _, rfl, hbs, ?_⟩
      subst hv
      exact ls_it_fix hE (by omega)
    | succ m ih =>
      intro k b v1 hk hv hbs
      obtain ⟨vr, hvr⟩ : ∃ x, x = v1 := ⟨_, rfl⟩
      have inner : ∀ m j b v1, j + m = (am_ar a).length → v1 = ls_rd (((am_ar a).take j).map am_xa) vr → bs_in b v1 → gx_G K D 4 0 0 31 [(3, .int (nI j)), (2, .int (nI k)), (1, .int (nI b)), (0, .ref (ad (2 + 4 * i)))] [] (gx_w ad (gm_h dA ad mm r)) (gx_Z K D dA 0 0 (fun v w => w = (gx_w ad (gm_h dA ad mm r)) ∧ ∃ b v2, v = some (.int (nI b)) ∧ bs_in b v2 ∧ ls_fix ((am_ar a).map am_xa) (am_v0 a) v2)) := by
        intro m
        induction m with
        | zero =>
          intro j b v1 hj hv1 hbs
          refine gx_iload_n C 0 dd_Ma_statesAhead_31 (kk := ?_)
          refine gx_aload_n C 3 dd_Ma_statesAhead_32 (kk := ?_)
          refine gm_get C fd_Ma_41 hi dd_Ma_statesAhead_33 (kk := ?_)
          refine gx_topi _ hM.2.2.2.1 ?_
          refine gx_icmp_ge C 75 dd_Ma_statesAhead_36 (fun h36 => ?_) (fun h36 => absurd (nI_le (a := (am_ar a).length) (b := j) (by omega) (by omega)) h36)
          refine gx_iinc C 1 (nI (k + 1)) _ dd_Ma_statesAhead_75 (nI_1 k) (kk := ?_)
          refine gx_goto C 21 dd_Ma_statesAhead_78 (kk := ?_)
          refine gx_loc [0, 2, 3] ?_
          rw [show j = (am_ar a).length by omega, List.take_length] at hv1
          exact ih (k + 1) b v1 (by omega) (by rw [hv1, hvr, hv]; rfl) hbs
        | succ m ihI =>
          intro j b v1 hj hv1 hbs
          obtain ⟨x, hx⟩ : ∃ x, (am_ar a)[j]? = some x := ⟨_, List.getElem?_eq_getElem (by omega)⟩
          obtain ⟨hx1, hx2⟩ := hM.2.2.2.2 _ _ hx
          have hxb := hb x (List.mem_of_getElem? hx)
          have hn1 := hnd x (List.mem_of_getElem? hx)
          refine gx_iload_n C 0 dd_Ma_statesAhead_31 (kk := ?_)
          refine gx_aload_n C 3 dd_Ma_statesAhead_32 (kk := ?_)
          refine gm_get C fd_Ma_41 hi dd_Ma_statesAhead_33 (kk := ?_)
          refine gx_topi _ hM.2.2.2.1 ?_
          refine gx_icmp_ge C 75 dd_Ma_statesAhead_36 (fun h36 => absurd h36 (nI_ge (by omega) (by omega))) (fun h36 => ?_)
          refine gx_iload_n C 2 dd_Ma_statesAhead_39 (kk := ?_)
          refine gx_aload_n C 3 dd_Ma_statesAhead_40 (kk := ?_)
          refine gm_get C fd_Ma_27 (by assumption) dd_Ma_statesAhead_41 (kk := ?_)
          refine gx_iload_n C 0 dd_Ma_statesAhead_44 (kk := ?_)
          refine gm_ln_k C hi dd_Ma_statesAhead_45 (by omega) (kk := ?_)
          refine gx_topi _ hx1 ?_
          refine gx_callS C (ct_WM_fromOf (gx_l K) D dA _ x.1 (by omega)) me_WM_fromOf ml_Ma_64 ms_WM_fromOf dd_Ma_statesAhead_46 (kk := fun v w hq => ?_)
          obtain ⟨rfl, rfl⟩ := hq
          refine gx_callS C (ct_WM_isIn (gx_l K) D dA _ b (x.1 / 1024) (by have := hbs.1; omega) (by omega)) me_WM_isIn ml_Ma_73 ms_WM_isIn dd_Ma_statesAhead_49 (kk := fun v w hq => ?_)
          obtain ⟨rfl, rfl⟩ := hq
          refine gx_if_eq C 69 dd_Ma_statesAhead_52 (fun h52 => ?_) (fun h52 => ?_)
          · refine gx_iinc C 0 (nI (j + 1)) _ dd_Ma_statesAhead_69 (nI_1 j) (kk := ?_)
            refine gx_goto C 31 dd_Ma_statesAhead_72 (kk := ?_)
            have hb2 := bs_rx hbs (f := x.1 / 1024) (t := x.1 % 16) (by omega) (by omega)
            rw [fb_0] at h52
            rw [h52, if_neg (by decide)] at hb2
            exact ihI (j + 1) _ _ (by omega) (by rw [am_map_s am_xa hx, ls_rd_s, ← hv1]; rfl) hb2
          · refine gx_iload_n C 2 dd_Ma_statesAhead_55 (kk := ?_)
            refine gx_iconst (v := nI 1) C dd_Ma_statesAhead_56 (kk := ?_)
            refine gx_aload_n C 3 dd_Ma_statesAhead_57 (kk := ?_)
            refine gm_get C fd_Ma_27 (by assumption) dd_Ma_statesAhead_58 (kk := ?_)
            refine gx_iload_n C 0 dd_Ma_statesAhead_61 (kk := ?_)
            refine gm_ln_k C hi dd_Ma_statesAhead_62 (by omega) (kk := ?_)
            refine gx_topi _ hx1 ?_
            refine gx_callS C (ct_WM_toOf (gx_l K) D dA _ x.1 (by omega)) me_WM_toOf ml_Ma_67 ms_WM_toOf dd_Ma_statesAhead_63 (kk := fun v w hq => ?_)
            obtain ⟨rfl, rfl⟩ := hq
            refine gx_ishl C dd_Ma_statesAhead_66 (kk := ?_)
            refine gx_topi _ (bs_shl (by omega)) ?_
            refine gx_ior C dd_Ma_statesAhead_67 (kk := ?_)
            refine gx_topi _ (bs_or _ _) ?_
            refine gx_istore_n C _ dd_Ma_statesAhead_68 (kk := ?_)
            refine gx_iinc C 1 (nI (j + 1)) _ dd_Ma_statesAhead_69 (nI_1 j) (kk := ?_)
            refine gx_goto C 31 dd_Ma_statesAhead_72 (kk := ?_)
            refine gx_loc [0, 2, 1, 3] ?_
            have hb2 := bs_rx hbs (f := x.1 / 1024) (t := x.1 % 16) (by omega) (by omega)
            rw [fb_0] at h52
            rw [if_pos (ts_nf h52)] at hb2
            exact ihI (j + 1) _ _ (by omega) (by rw [am_map_s am_xa hx, ls_rd_s, ← hv1]; rfl) hb2
      refine gx_iload_n C 0 dd_Ma_statesAhead_21 (kk := ?_)
      refine gx_aload_n C 2 dd_Ma_statesAhead_22 (kk := ?_)
      refine gm_get C fd_Ma_34 hi dd_Ma_statesAhead_23 (kk := ?_)
      refine gx_topi _ hM.1 ?_
      refine gx_icmp_ge C 81 dd_Ma_statesAhead_26 (fun h26 => absurd h26 (nI_ge (by omega) (by omega))) (fun h26 => ?_)
      refine gx_iconst (v := nI 0) C dd_Ma_statesAhead_29 (kk := ?_)
      refine gx_istore_n C _ dd_Ma_statesAhead_30 (kk := ?_)
      exact inner (am_ar a).length 0 b v1 (by omega) (by rw [hvr]; rfl) hbs
  cases hs : am_st a with
  | none =>
    have hq := hM.2.1
    rw [hs] at hq
    refine gx_aload_n C 0 dd_Ma_statesAhead_0 (kk := ?_)
    refine gm_get C fd_Ma_9 hi dd_Ma_statesAhead_1 (kk := ?_)
    refine gx_topi _ hq.1 ?_
    refine gx_iconst (v := -1) C dd_Ma_statesAhead_4 (kk := ?_)
    refine gx_icmp_ne C 12 dd_Ma_statesAhead_5 (fun h5 => absurd rfl h5) (fun h5 => ?_)
    refine gx_iconst (v := nI 0) C dd_Ma_statesAhead_8 (kk := ?_)
    refine gx_goto C 18 dd_Ma_statesAhead_9 (kk := ?_)
    refine gx_istore_n C _ dd_Ma_statesAhead_18 (kk := ?_)
    refine gx_iconst (v := nI 0) C dd_Ma_statesAhead_19 (kk := ?_)
    refine gx_istore_n C _ dd_Ma_statesAhead_20 (kk := ?_)
    exact loop (am_n a) 0 0 _ (by omega) rfl (bs_v0 hs)
  | some x =>
    have hq := hM.2.1
    rw [hs] at hq
    have hx16 := hst x hs
    refine gx_aload_n C 0 dd_Ma_statesAhead_0 (kk := ?_)
    refine gm_get C fd_Ma_9 hi dd_Ma_statesAhead_1 (kk := ?_)
    refine gx_topi _ hq.1 ?_
    refine gx_iconst (v := -1) C dd_Ma_statesAhead_4 (kk := ?_)
    refine gx_icmp_ne C 12 dd_Ma_statesAhead_5 (fun h5 => ?_) (fun h5 => absurd h5 (nI_m1 (by omega)))
    refine gx_iconst (v := nI 1) C dd_Ma_statesAhead_12 (kk := ?_)
    refine gx_aload_n C 0 dd_Ma_statesAhead_13 (kk := ?_)
    refine gm_get C fd_Ma_9 hi dd_Ma_statesAhead_14 (kk := ?_)
    refine gx_topi _ hq.1 ?_
    refine gx_ishl C dd_Ma_statesAhead_17 (kk := ?_)
    refine gx_topi _ (bs_shl (by omega)) ?_
    refine gx_istore_n C _ dd_Ma_statesAhead_18 (kk := ?_)
    refine gx_iconst (v := nI 0) C dd_Ma_statesAhead_19 (kk := ?_)
    refine gx_istore_n C _ dd_Ma_statesAhead_20 (kk := ?_)
    exact loop (am_n a) 0 _ _ (by omega) rfl (bs_v1 hs hx16)
set_option maxRecDepth 100000 in
set_option maxHeartbeats 4000000 in
theorem ct_Ma_statesBehind (l : Launch) (D : va_G) (dA : Nat → ClassId) (ad : Nat → Nat) (mm : Nat → gm_V) (r : Nat → va_E) {i : Nat} {a : am_T} (hi : i < 5) (hM : gm_is (mm i) a) (hn : am_n a ≤ 16) (hl : (am_ar a).length ≤ 64) (hb : ∀ x ∈ am_ar a, x.1 < 16384) (hnd : ∀ x ∈ am_ar a, x.1 / 1024 < am_n a ∧ x.1 % 16 < am_n a) (hst : ∀ x, am_st a = some x → x.1 < 16) (hen : ∀ q e, am_en a q = some e → e < 2 ^ 63) : gx_Ct l D dA yy_Ma_statesBehind cc_Ma_statesBehind 4 (some .int) 1 0 0 [.ref (ad (2 + 4 * i))] (gx_w ad (gm_h dA ad mm r)) (fun v w => w = (gx_w ad (gm_h dA ad mm r)) ∧ ∃ b v2, v = some (.int (nI b)) ∧ bs_in b v2 ∧ ls_fix ((am_ar a).map am_xb) (am_e0 a (am_n a)) v2) := by
  refine gx_of (by decide) (Nat.le_of_ble_eq_true rfl) (fun K C _ _ => ?_)
  have hE : ∀ e ∈ (am_ar a).map am_xb, e.1 < am_n a ∧ e.2.1 < am_n a := by
    intro e he
    obtain ⟨x, hx, rfl⟩ := List.mem_map.mp he
    exact (hnd x hx).symm
  have loop : ∀ m k b v1, k + m = am_n a → v1 = ls_it ((am_ar a).map am_xb) k (am_e0 a (am_n a)) → bs_in b v1 → gx_G K D 4 0 0 39 [(2, .int (nI k)), (1, .int (nI b)), (0, .ref (ad (2 + 4 * i)))] [] (gx_w ad (gm_h dA ad mm r)) (gx_Z K D dA 0 0 (fun v w => w = (gx_w ad (gm_h dA ad mm r)) ∧ ∃ b v2, v = some (.int (nI b)) ∧ bs_in b v2 ∧ ls_fix ((am_ar a).map am_xb) (am_e0 a (am_n a)) v2)) := by
    intro m
    induction m with
    | zero =>
      intro k b v1 hk hv hbs
      refine gx_iload_n C 0 dd_Ma_statesBehind_39 (kk := ?_)
      refine gx_aload_n C 2 dd_Ma_statesBehind_40 (kk := ?_)
      refine gm_get C fd_Ma_34 hi dd_Ma_statesBehind_41 (kk := ?_)
      refine gx_topi _ hM.1 ?_
      refine gx_icmp_ge C 99 dd_Ma_statesBehind_44 (fun h44 => ?_) (fun h44 => absurd (nI_le (a := am_n a) (b := k) (by omega) (by omega)) h44)
      refine gx_iload_n C 1 dd_Ma_statesBehind_99 (kk := ?_)
      refine gx_iret C dd_Ma_statesBehind_100 ?_
      refine ⟨rfl, b, _, rfl, hbs, ?_⟩
      subst hv
      exact ls_it_fix hE (by omega)
    | succ m ih =>
      intro k b v1 hk hv hbs
      obtain ⟨vr, hvr⟩ : ∃ x, x = v1 := ⟨_, rfl⟩
      have inner : ∀ m j b v1, j + m = (am_ar a).length → v1 = ls_rd (((am_ar a).take j).map am_xb) vr → bs_in b v1 → gx_G K D 4 0 0 49 [(3, .int (nI j)), (2, .int (nI k)), (1, .int (nI b)), (0, .ref (ad (2 + 4 * i)))] [] (gx_w ad (gm_h dA ad mm r)) (gx_Z K D dA 0 0 (fun v w => w = (gx_w ad (gm_h dA ad mm r)) ∧ ∃ b v2, v = some (.int (nI b)) ∧ bs_in b v2 ∧ ls_fix ((am_ar a).map am_xb) (am_e0 a (am_n a)) v2)) := by
        intro m
        induction m with
        | zero =>
          intro j b v1 hj hv1 hbs
          refine gx_iload_n C 0 dd_Ma_statesBehind_49 (kk := ?_)
          refine gx_aload_n C 3 dd_Ma_statesBehind_50 (kk := ?_)
          refine gm_get C fd_Ma_41 hi dd_Ma_statesBehind_51 (kk := ?_)
          refine gx_topi _ hM.2.2.2.1 ?_
          refine gx_icmp_ge C 93 dd_Ma_statesBehind_54 (fun h54 => ?_) (fun h54 => absurd (nI_le (a := (am_ar a).length) (b := j) (by omega) (by omega)) h54)
          refine gx_iinc C 1 (nI (k + 1)) _ dd_Ma_statesBehind_93 (nI_1 k) (kk := ?_)
          refine gx_goto C 39 dd_Ma_statesBehind_96 (kk := ?_)
          refine gx_loc [0, 2, 3] ?_
          rw [show j = (am_ar a).length by omega, List.take_length] at hv1
          exact ih (k + 1) b v1 (by omega) (by rw [hv1, hvr, hv]; rfl) hbs
        | succ m ihI =>
          intro j b v1 hj hv1 hbs
          obtain ⟨x, hx⟩ : ∃ x, (am_ar a)[j]? = some x := ⟨_, List.getElem?_eq_getElem (by omega)⟩
          obtain ⟨hx1, hx2⟩ := hM.2.2.2.2 _ _ hx
          have hxb := hb x (List.mem_of_getElem? hx)
          have hn1 := hnd x (List.mem_of_getElem? hx)
          refine gx_iload_n C 0 dd_Ma_statesBehind_49 (kk := ?_)
          refine gx_aload_n C 3 dd_Ma_statesBehind_50 (kk := ?_)
          refine gm_get C fd_Ma_41 hi dd_Ma_statesBehind_51 (kk := ?_)
          refine gx_topi _ hM.2.2.2.1 ?_
          refine gx_icmp_ge C 93 dd_Ma_statesBehind_54 (fun h54 => absurd h54 (nI_ge (by omega) (by omega))) (fun h54 => ?_)
          refine gx_iload_n C 2 dd_Ma_statesBehind_57 (kk := ?_)
          refine gx_aload_n C 3 dd_Ma_statesBehind_58 (kk := ?_)
          refine gm_get C fd_Ma_27 (by assumption) dd_Ma_statesBehind_59 (kk := ?_)
          refine gx_iload_n C 0 dd_Ma_statesBehind_62 (kk := ?_)
          refine gm_ln_k C hi dd_Ma_statesBehind_63 (by omega) (kk := ?_)
          refine gx_topi _ hx1 ?_
          refine gx_callS C (ct_WM_toOf (gx_l K) D dA _ x.1 (by omega)) me_WM_toOf ml_Ma_67 ms_WM_toOf dd_Ma_statesBehind_64 (kk := fun v w hq => ?_)
          obtain ⟨rfl, rfl⟩ := hq
          refine gx_callS C (ct_WM_isIn (gx_l K) D dA _ b (x.1 % 16) (by have := hbs.1; omega) (by omega)) me_WM_isIn ml_Ma_73 ms_WM_isIn dd_Ma_statesBehind_67 (kk := fun v w hq => ?_)
          obtain ⟨rfl, rfl⟩ := hq
          refine gx_if_eq C 87 dd_Ma_statesBehind_70 (fun h70 => ?_) (fun h70 => ?_)
          · refine gx_iinc C 0 (nI (j + 1)) _ dd_Ma_statesBehind_87 (nI_1 j) (kk := ?_)
            refine gx_goto C 49 dd_Ma_statesBehind_90 (kk := ?_)
            have hb2 := bs_rx hbs (f := x.1 % 16) (t := x.1 / 1024) (by omega) (by omega)
            rw [fb_0] at h70
            rw [h70, if_neg (by decide)] at hb2
            exact ihI (j + 1) _ _ (by omega) (by rw [am_map_s am_xb hx, ls_rd_s, ← hv1]; rfl) hb2
          · refine gx_iload_n C 2 dd_Ma_statesBehind_73 (kk := ?_)
            refine gx_iconst (v := nI 1) C dd_Ma_statesBehind_74 (kk := ?_)
            refine gx_aload_n C 3 dd_Ma_statesBehind_75 (kk := ?_)
            refine gm_get C fd_Ma_27 (by assumption) dd_Ma_statesBehind_76 (kk := ?_)
            refine gx_iload_n C 0 dd_Ma_statesBehind_79 (kk := ?_)
            refine gm_ln_k C hi dd_Ma_statesBehind_80 (by omega) (kk := ?_)
            refine gx_topi _ hx1 ?_
            refine gx_callS C (ct_WM_fromOf (gx_l K) D dA _ x.1 (by omega)) me_WM_fromOf ml_Ma_64 ms_WM_fromOf dd_Ma_statesBehind_81 (kk := fun v w hq => ?_)
            obtain ⟨rfl, rfl⟩ := hq
            refine gx_ishl C dd_Ma_statesBehind_84 (kk := ?_)
            refine gx_topi _ (bs_shl (by omega)) ?_
            refine gx_ior C dd_Ma_statesBehind_85 (kk := ?_)
            refine gx_topi _ (bs_or _ _) ?_
            refine gx_istore_n C _ dd_Ma_statesBehind_86 (kk := ?_)
            refine gx_iinc C 1 (nI (j + 1)) _ dd_Ma_statesBehind_87 (nI_1 j) (kk := ?_)
            refine gx_goto C 49 dd_Ma_statesBehind_90 (kk := ?_)
            refine gx_loc [0, 2, 1, 3] ?_
            have hb2 := bs_rx hbs (f := x.1 % 16) (t := x.1 / 1024) (by omega) (by omega)
            rw [fb_0] at h70
            rw [if_pos (ts_nf h70)] at hb2
            exact ihI (j + 1) _ _ (by omega) (by rw [am_map_s am_xb hx, ls_rd_s, ← hv1]; rfl) hb2
      refine gx_iload_n C 0 dd_Ma_statesBehind_39 (kk := ?_)
      refine gx_aload_n C 2 dd_Ma_statesBehind_40 (kk := ?_)
      refine gm_get C fd_Ma_34 hi dd_Ma_statesBehind_41 (kk := ?_)
      refine gx_topi _ hM.1 ?_
      refine gx_icmp_ge C 99 dd_Ma_statesBehind_44 (fun h44 => absurd h44 (nI_ge (by omega) (by omega))) (fun h44 => ?_)
      refine gx_iconst (v := nI 0) C dd_Ma_statesBehind_47 (kk := ?_)
      refine gx_istore_n C _ dd_Ma_statesBehind_48 (kk := ?_)
      exact inner (am_ar a).length 0 b v1 (by omega) (by rw [hvr]; rfl) hbs
  have ends : ∀ m j b, j + m = am_n a → bs_in b (am_e0 a j) → gx_G K D 4 0 0 4 [(2, .int (nI j)), (1, .int (nI b)), (0, .ref (ad (2 + 4 * i)))] [] (gx_w ad (gm_h dA ad mm r)) (gx_Z K D dA 0 0 (fun v w => w = (gx_w ad (gm_h dA ad mm r)) ∧ ∃ b v2, v = some (.int (nI b)) ∧ bs_in b v2 ∧ ls_fix ((am_ar a).map am_xb) (am_e0 a (am_n a)) v2)) := by
    intro m
    induction m with
    | zero =>
      intro j b hj hbs
      refine gx_iload_n C 0 dd_Ma_statesBehind_4 (kk := ?_)
      refine gx_aload_n C 2 dd_Ma_statesBehind_5 (kk := ?_)
      refine gm_get C fd_Ma_34 hi dd_Ma_statesBehind_6 (kk := ?_)
      refine gx_topi _ hM.1 ?_
      refine gx_icmp_ge C 37 dd_Ma_statesBehind_9 (fun h9 => ?_) (fun h9 => absurd (nI_le (a := am_n a) (b := j) (by omega) (by omega)) h9)
      refine gx_iconst (v := nI 0) C dd_Ma_statesBehind_37 (kk := ?_)
      refine gx_istore_n C _ dd_Ma_statesBehind_38 (kk := ?_)
      rw [show j = am_n a by omega] at hbs
      exact loop (am_n a) 0 b _ (by omega) rfl hbs
    | succ m ih =>
      intro j b hj hbs
      refine gx_iload_n C 0 dd_Ma_statesBehind_4 (kk := ?_)
      refine gx_aload_n C 2 dd_Ma_statesBehind_5 (kk := ?_)
      refine gm_get C fd_Ma_34 hi dd_Ma_statesBehind_6 (kk := ?_)
      refine gx_topi _ hM.1 ?_
      refine gx_icmp_ge C 37 dd_Ma_statesBehind_9 (fun h9 => absurd h9 (nI_ge (by omega) (by omega))) (fun h9 => ?_)
      refine gx_aload_n C 2 dd_Ma_statesBehind_12 (kk := ?_)
      refine gm_get C fd_Ma_15 (by assumption) dd_Ma_statesBehind_13 (kk := ?_)
      refine gx_iload_n C 0 dd_Ma_statesBehind_16 (kk := ?_)
      refine gm_ln_e C hi dd_Ma_statesBehind_17 (by omega) (kk := ?_)
      refine gx_ldc2 C dd_Ma_statesBehind_18 kc_Ma_19 (kk := ?_)
      refine gx_lcmp C dd_Ma_statesBehind_21 (kk := ?_)
      refine gx_if_eq C 31 dd_Ma_statesBehind_22 (fun h22 => ?_) (fun h22 => ?_)
      · refine gx_iinc C 0 (nI (j + 1)) _ dd_Ma_statesBehind_31 (nI_1 j) (kk := ?_)
        refine gx_goto C 4 dd_Ma_statesBehind_34 (kk := ?_)
        rw [lc_eq, hM.2.2.1 j (by omega), am_e_eq (hen j)] at h22
        have hb2 := bs_e1 hbs (by omega)
        rw [if_pos h22] at hb2
        exact ih (j + 1) _ (by omega) hb2
      · refine gx_iload_n C 1 dd_Ma_statesBehind_25 (kk := ?_)
        refine gx_iconst (v := nI 1) C dd_Ma_statesBehind_26 (kk := ?_)
        refine gx_iload_n C 0 dd_Ma_statesBehind_27 (kk := ?_)
        refine gx_ishl C dd_Ma_statesBehind_28 (kk := ?_)
        refine gx_topi _ (bs_shl (by omega)) ?_
        refine gx_ior C dd_Ma_statesBehind_29 (kk := ?_)
        refine gx_topi _ (bs_or _ _) ?_
        refine gx_istore_n C _ dd_Ma_statesBehind_30 (kk := ?_)
        refine gx_iinc C 1 (nI (j + 1)) _ dd_Ma_statesBehind_31 (nI_1 j) (kk := ?_)
        refine gx_goto C 4 dd_Ma_statesBehind_34 (kk := ?_)
        rw [lc_eq, hM.2.2.1 j (by omega), am_e_eq (hen j)] at h22
        have hb2 := bs_e1 hbs (by omega)
        rw [if_neg h22] at hb2
        exact ih (j + 1) _ (by omega) hb2
  refine gx_iconst (v := nI 0) C dd_Ma_statesBehind_0 (kk := ?_)
  refine gx_istore_n C _ dd_Ma_statesBehind_1 (kk := ?_)
  refine gx_iconst (v := nI 0) C dd_Ma_statesBehind_2 (kk := ?_)
  refine gx_istore_n C _ dd_Ma_statesBehind_3 (kk := ?_)
  exact ends (am_n a) 0 0 (by omega) (bs_e0 a)
def am_cl (l : List (Nat × Nat)) : Bool := l.all (fun x => decide (x.1 / 128 % 8 ≠ 0) && decide (x.1 / 128 % 8 = x.1 / 16 % 8))
theorem am_cl_s {l : List (Nat × Nat)} {j : Nat} {x : Nat × Nat} (h : l[j]? = some x) : am_cl (l.take (j + 1)) = (am_cl (l.take j) && (decide (x.1 / 128 % 8 ≠ 0) && decide (x.1 / 128 % 8 = x.1 / 16 % 8))) := by
  unfold am_cl
  rw [List.take_add_one, h]
  simp [List.all_append]
theorem am_cl_f {l : List (Nat × Nat)} {j : Nat} {x : Nat × Nat} (h : l[j]? = some x) (hf : (decide (x.1 / 128 % 8 ≠ 0) && decide (x.1 / 128 % 8 = x.1 / 16 % 8)) = false) : am_cl l = false := by
  unfold am_cl
  rw [List.all_eq_false]
  exact ⟨x, List.mem_of_getElem? h, by rw [hf]; decide⟩
set_option maxRecDepth 100000 in
set_option maxHeartbeats 4000000 in
theorem ct_Ma_copiesLabels (l : Launch) (D : va_G) (dA : Nat → ClassId) (ad : Nat → Nat) (mm : Nat → gm_V) (r : Nat → va_E) {i : Nat} {a : am_T} (hi : i < 5) (hM : gm_is (mm i) a) (hl : (am_ar a).length ≤ 64) (hb : ∀ x ∈ am_ar a, x.1 < 16384) (hnd : ∀ x ∈ am_ar a, x.1 / 1024 < am_n a ∧ x.1 % 16 < am_n a) : gx_Ct l D dA yy_Ma_copiesLabels cc_Ma_copiesLabels 2 (some .boolean) 1 0 0 [.ref (ad (2 + 4 * i))] (gx_w ad (gm_h dA ad mm r)) (fun v w => v = some (.int (nI (am_cl (am_ar a)).toNat)) ∧ w = (gx_w ad (gm_h dA ad mm r))) := by
  refine gx_of (by decide) (Nat.le_of_ble_eq_true rfl) (fun K C _ _ => ?_)
  have loop : ∀ m j, j + m = (am_ar a).length → am_cl ((am_ar a).take j) = true → gx_G K D 2 0 0 2 [(1, .int (nI j)), (0, .ref (ad (2 + 4 * i)))] [] (gx_w ad (gm_h dA ad mm r)) (gx_Z K D dA 0 0 (fun v w => v = some (.int (nI (am_cl (am_ar a)).toNat)) ∧ w = (gx_w ad (gm_h dA ad mm r)))) := by
    intro m
    induction m with
    | zero =>
      intro j hj hc
      refine gx_iload_n C 0 dd_Ma_copiesLabels_2 (kk := ?_)
      refine gx_aload_n C 1 dd_Ma_copiesLabels_3 (kk := ?_)
      refine gm_get C fd_Ma_41 hi dd_Ma_copiesLabels_4 (kk := ?_)
      refine gx_topi _ hM.2.2.2.1 ?_
      refine gx_icmp_ge C 51 dd_Ma_copiesLabels_7 (fun h7 => ?_) (fun h7 => absurd (nI_le (a := (am_ar a).length) (b := j) (by omega) (by omega)) h7)
      refine gx_iconst (v := nI 1) C dd_Ma_copiesLabels_51 (kk := ?_)
      refine gx_zret C dd_Ma_copiesLabels_52 (by first | rfl | exact fb_nar) ?_
      rw [show j = (am_ar a).length by omega, List.take_length] at hc
      rw [hc]
      exact ⟨rfl, rfl⟩
    | succ m ih =>
      intro j hj hc
      obtain ⟨x, hx⟩ : ∃ x, (am_ar a)[j]? = some x := ⟨_, List.getElem?_eq_getElem (by omega)⟩
      obtain ⟨hx1, hx2⟩ := hM.2.2.2.2 _ _ hx
      have hxb := hb x (List.mem_of_getElem? hx)
      have hn1 := hnd x (List.mem_of_getElem? hx)
      refine gx_iload_n C 0 dd_Ma_copiesLabels_2 (kk := ?_)
      refine gx_aload_n C 1 dd_Ma_copiesLabels_3 (kk := ?_)
      refine gm_get C fd_Ma_41 hi dd_Ma_copiesLabels_4 (kk := ?_)
      refine gx_topi _ hM.2.2.2.1 ?_
      refine gx_icmp_ge C 51 dd_Ma_copiesLabels_7 (fun h7 => absurd h7 (nI_ge (by omega) (by omega))) (fun h7 => ?_)
      refine gx_aload_n C 1 dd_Ma_copiesLabels_10 (kk := ?_)
      refine gm_get C fd_Ma_27 (by assumption) dd_Ma_copiesLabels_11 (kk := ?_)
      refine gx_iload_n C 0 dd_Ma_copiesLabels_14 (kk := ?_)
      refine gm_ln_k C hi dd_Ma_copiesLabels_15 (by omega) (kk := ?_)
      refine gx_topi _ hx1 ?_
      refine gx_callS C (ct_WM_inOf (gx_l K) D dA _ x.1 (by omega)) me_WM_inOf ml_Ma_77 ms_WM_inOf dd_Ma_copiesLabels_16 (kk := fun v w hq => ?_)
      obtain ⟨rfl, rfl⟩ := hq
      refine gx_if_eq C 43 dd_Ma_copiesLabels_19 (fun h19 => ?_) (fun h19 => ?_)
      · refine gx_iconst (v := nI 0) C dd_Ma_copiesLabels_43 (kk := ?_)
        refine gx_zret C dd_Ma_copiesLabels_44 (by first | rfl | exact fb_nar) ?_
        rw [show (0 : Int32) = nI 0 from rfl, nI_eq (by omega) (by decide)] at h19
        rw [am_cl_f hx (by simp [h19])]
        exact ⟨rfl, rfl⟩
      · refine gx_aload_n C 1 dd_Ma_copiesLabels_22 (kk := ?_)
        refine gm_get C fd_Ma_27 (by assumption) dd_Ma_copiesLabels_23 (kk := ?_)
        refine gx_iload_n C 0 dd_Ma_copiesLabels_26 (kk := ?_)
        refine gm_ln_k C hi dd_Ma_copiesLabels_27 (by omega) (kk := ?_)
        refine gx_topi _ hx1 ?_
        refine gx_callS C (ct_WM_inOf (gx_l K) D dA _ x.1 (by omega)) me_WM_inOf ml_Ma_77 ms_WM_inOf dd_Ma_copiesLabels_28 (kk := fun v w hq => ?_)
        obtain ⟨rfl, rfl⟩ := hq
        refine gx_aload_n C 1 dd_Ma_copiesLabels_31 (kk := ?_)
        refine gm_get C fd_Ma_27 (by assumption) dd_Ma_copiesLabels_32 (kk := ?_)
        refine gx_iload_n C 0 dd_Ma_copiesLabels_35 (kk := ?_)
        refine gm_ln_k C hi dd_Ma_copiesLabels_36 (by omega) (kk := ?_)
        refine gx_topi _ hx1 ?_
        refine gx_callS C (ct_WM_outOf (gx_l K) D dA _ x.1 (by omega)) me_WM_outOf ml_Ma_80 ms_WM_outOf dd_Ma_copiesLabels_37 (kk := fun v w hq => ?_)
        obtain ⟨rfl, rfl⟩ := hq
        refine gx_icmp_eq C 45 dd_Ma_copiesLabels_40 (fun h40 => ?_) (fun h40 => ?_)
        · refine gx_iinc C 0 (nI (j + 1)) _ dd_Ma_copiesLabels_45 (nI_1 j) (kk := ?_)
          refine gx_goto C 2 dd_Ma_copiesLabels_48 (kk := ?_)
          rw [show (0 : Int32) = nI 0 from rfl, nI_eq (by omega) (by decide)] at h19
          rw [nI_eq (by omega) (by omega)] at h40
          exact ih (j + 1) (by omega) (by rw [am_cl_s hx, hc, decide_eq_true h19, decide_eq_true h40]; rfl)
        · refine gx_iconst (v := nI 0) C dd_Ma_copiesLabels_43 (kk := ?_)
          refine gx_zret C dd_Ma_copiesLabels_44 (by first | rfl | exact fb_nar) ?_
          rw [show (0 : Int32) = nI 0 from rfl, nI_eq (by omega) (by decide)] at h19
          rw [nI_eq (by omega) (by omega)] at h40
          rw [am_cl_f hx (by simp [h40])]
          exact ⟨rfl, rfl⟩
  refine gx_iconst (v := nI 0) C dd_Ma_copiesLabels_0 (kk := ?_)
  refine gx_istore_n C _ dd_Ma_copiesLabels_1 (kk := ?_)
  exact loop (am_ar a).length 0 (by omega) rfl
def am_wk (l : List (Nat × Nat)) (n : Nat) : Nat → Nat → Prop
  | 0, s => s < n
  | k + 1, s => ∃ x ∈ l, x.1 / 1024 = s ∧ am_wk l n k (x.1 % 16)
def bw_in (b : Nat) (P : Nat → Prop) : Prop := b < 65536 ∧ ∀ s, s < 16 → (b.testBit s = true ↔ P s)
theorem bw_s {l : List (Nat × Nat)} {j : Nat} {x : Nat × Nat} {b : Nat} {P : Nat → Prop} (h : l[j]? = some x) (hb : bw_in b (fun s => ∃ y ∈ l.take j, y.1 / 1024 = s ∧ P (y.1 % 16))) (hx : x.1 / 1024 < 16) (c : Bool) (hc : c = true ↔ P (x.1 % 16)) : bw_in (if c = true then b ||| 2 ^ (x.1 / 1024) else b) (fun s => ∃ y ∈ l.take (j + 1), y.1 / 1024 = s ∧ P (y.1 % 16)) := by
  have hm : ∀ y, y ∈ l.take (j + 1) ↔ y ∈ l.take j ∨ y = x := fun y => by
    rw [List.take_add_one, h]
    simp
  cases c with
  | false =>
    refine ⟨hb.1, fun s hs => ?_⟩
    rw [if_neg (by decide), hb.2 s hs]
    constructor
    · rintro ⟨y, hy, h1, h2⟩
      exact ⟨y, (hm y).mpr (Or.inl hy), h1, h2⟩
    · rintro ⟨y, hy, h1, h2⟩
      rcases (hm y).mp hy with hy | hy
      · exact ⟨y, hy, h1, h2⟩
      · subst hy
        exact absurd (hc.mpr h2) (by decide)
  | true =>
    rw [if_pos rfl]
    refine ⟨Nat.or_lt_two_pow (n := 16) hb.1 (bs_2 hx), fun s hs => ?_⟩
    rw [Nat.testBit_or, Bool.or_eq_true, hb.2 s hs, Nat.testBit_two_pow, decide_eq_true_iff]
    constructor
    · rintro (⟨y, hy, h1, h2⟩ | h1)
      · exact ⟨y, (hm y).mpr (Or.inl hy), h1, h2⟩
      · exact ⟨x, (hm x).mpr (Or.inr rfl), h1, hc.mp rfl⟩
    · rintro ⟨y, hy, h1, h2⟩
      rcases (hm y).mp hy with hy | hy
      · exact Or.inl ⟨y, hy, h1, h2⟩
      · subst hy
        exact Or.inr h1
theorem bw_0 {l : List (Nat × Nat)} {P : Nat → Prop} : bw_in 0 (fun s => ∃ y ∈ l.take 0, y.1 / 1024 = s ∧ P (y.1 % 16)) := ⟨by decide, fun s _ => by simp⟩
theorem bw_n {n : Nat} (h : n ≤ 16) : bw_in (2 ^ n - 1) (fun s => s < n) := by
  refine ⟨?_, fun s _ => by rw [Nat.testBit_two_pow_sub_one]; simp⟩
  have := Nat.pow_le_pow_right (n := 2) (by decide) h
  have h2 : (2 : Nat) ^ 16 = 65536 := by decide
  have := Nat.two_pow_pos n
  omega
theorem bw_e {b : Nat} {P : Nat → Prop} (h : bw_in b P) (hP : ∀ s, P s → s < 16) : b = 0 ↔ ¬ ∃ s, P s := by
  constructor
  · rintro rfl ⟨s, hs⟩
    have := (h.2 s (hP s hs)).mpr hs
    simp at this
  · intro hn
    apply Nat.eq_of_testBit_eq
    intro s
    rw [Nat.zero_testBit]
    by_cases hs : s < 16
    · cases hb : b.testBit s with
      | false => rfl
      | true => exact absurd ⟨s, (h.2 s hs).mp hb⟩ hn
    · exact Nat.testBit_lt_two_pow (Nat.lt_of_lt_of_le h.1 (Nat.pow_le_pow_right (n := 2) (by decide) (show 16 ≤ s by omega)))
theorem am_wk_lt {l : List (Nat × Nat)} {n : Nat} (h : ∀ x ∈ l, x.1 / 1024 < n ∧ x.1 % 16 < n) : ∀ k s, am_wk l n k s → s < n
  | 0, s, hs => hs
  | k + 1, s, ⟨x, hx, h1, _⟩ => by rw [← h1]; exact (h x hx).1
set_option maxRecDepth 100000 in
set_option maxHeartbeats 4000000 in
theorem ct_Ma_hasCycle (l : Launch) (D : va_G) (dA : Nat → ClassId) (ad : Nat → Nat) (mm : Nat → gm_V) (r : Nat → va_E) {i : Nat} {a : am_T} (hi : i < 5) (hM : gm_is (mm i) a) (hn : am_n a ≤ 16) (hl : (am_ar a).length ≤ 64) (hb : ∀ x ∈ am_ar a, x.1 < 16384) (hnd : ∀ x ∈ am_ar a, x.1 / 1024 < am_n a ∧ x.1 % 16 < am_n a) : gx_Ct l D dA yy_Ma_hasCycle cc_Ma_hasCycle 5 (some .boolean) 1 0 0 [.ref (ad (2 + 4 * i))] (gx_w ad (gm_h dA ad mm r)) (fun v w => w = (gx_w ad (gm_h dA ad mm r)) ∧ ∃ c : Bool, v = some (.int (nI c.toNat)) ∧ (c = true ↔ ∃ s, am_wk (am_ar a) (am_n a) (am_n a) s)) := by
  refine gx_of (by decide) (Nat.le_of_ble_eq_true rfl) (fun K C _ _ => ?_)
  have loop : ∀ m k g, k + m = am_n a → bw_in g (am_wk (am_ar a) (am_n a) k) → gx_G K D 5 0 0 11 [(2, .int (nI k)), (1, .int (nI g)), (0, .ref (ad (2 + 4 * i)))] [] (gx_w ad (gm_h dA ad mm r)) (gx_Z K D dA 0 0 (fun v w => w = (gx_w ad (gm_h dA ad mm r)) ∧ ∃ c : Bool, v = some (.int (nI c.toNat)) ∧ (c = true ↔ ∃ s, am_wk (am_ar a) (am_n a) (am_n a) s))) := by
    intro m
    induction m with
    | zero =>
      intro k g hk hg
      refine gx_iload_n C 0 dd_Ma_hasCycle_11 (kk := ?_)
      refine gx_aload_n C 2 dd_Ma_hasCycle_12 (kk := ?_)
      refine gm_get C fd_Ma_34 hi dd_Ma_hasCycle_13 (kk := ?_)
      refine gx_topi _ hM.1 ?_
      refine gx_icmp_ge C 79 dd_Ma_hasCycle_16 (fun h16 => ?_) (fun h16 => absurd (nI_le (a := am_n a) (b := k) (by omega) (by omega)) h16)
      refine gx_iload_n C 1 dd_Ma_hasCycle_79 (kk := ?_)
      refine gx_if_eq C 87 dd_Ma_hasCycle_80 (fun h80 => ?_) (fun h80 => ?_)
      · refine gx_iconst (v := nI 0) C dd_Ma_hasCycle_87 (kk := ?_)
        refine gx_zret C dd_Ma_hasCycle_88 (by first | rfl | exact fb_nar) ?_
        rw [show k = am_n a by omega] at hg
        have hz := bw_e hg (fun s hs => Nat.lt_of_lt_of_le (am_wk_lt hnd _ _ hs) hn)
        have := hg.1
        rw [show (0 : Int32) = nI 0 from rfl, nI_eq (by omega) (by decide)] at h80
        exact ⟨rfl, false, rfl, Iff.intro (fun h => absurd h (by decide)) (fun h => absurd h (hz.mp h80))⟩
      · refine gx_iconst (v := nI 1) C dd_Ma_hasCycle_83 (kk := ?_)
        refine gx_goto C 88 dd_Ma_hasCycle_84 (kk := ?_)
        refine gx_zret C dd_Ma_hasCycle_88 (by first | rfl | exact fb_nar) ?_
        rw [show k = am_n a by omega] at hg
        have hz := bw_e hg (fun s hs => Nat.lt_of_lt_of_le (am_wk_lt hnd _ _ hs) hn)
        have := hg.1
        rw [show (0 : Int32) = nI 0 from rfl, nI_eq (by omega) (by decide)] at h80
        exact ⟨rfl, true, rfl, ⟨fun _ => Classical.not_not.mp (fun h => h80 (hz.mpr h)), fun _ => rfl⟩⟩
    | succ m ih =>
      intro k g hk hg
      have inner : ∀ m j b, j + m = (am_ar a).length → bw_in b (fun s => ∃ y ∈ (am_ar a).take j, y.1 / 1024 = s ∧ am_wk (am_ar a) (am_n a) k (y.1 % 16)) → gx_G K D 5 0 0 24 [(4, .int (nI j)), (3, .int (nI b)), (2, .int (nI k)), (1, .int (nI g)), (0, .ref (ad (2 + 4 * i)))] [] (gx_w ad (gm_h dA ad mm r)) (gx_Z K D dA 0 0 (fun v w => w = (gx_w ad (gm_h dA ad mm r)) ∧ ∃ c : Bool, v = some (.int (nI c.toNat)) ∧ (c = true ↔ ∃ s, am_wk (am_ar a) (am_n a) (am_n a) s))) := by
        intro m
        induction m with
        | zero =>
          intro j b hj hbs
          refine gx_iload C 0 dd_Ma_hasCycle_24 (kk := ?_)
          refine gx_aload_n C 4 dd_Ma_hasCycle_26 (kk := ?_)
          refine gm_get C fd_Ma_41 hi dd_Ma_hasCycle_27 (kk := ?_)
          refine gx_topi _ hM.2.2.2.1 ?_
          refine gx_icmp_ge C 71 dd_Ma_hasCycle_30 (fun h30 => ?_) (fun h30 => absurd (nI_le (a := (am_ar a).length) (b := j) (by omega) (by omega)) h30)
          refine gx_iload_n C 1 dd_Ma_hasCycle_71 (kk := ?_)
          refine gx_istore_n C _ dd_Ma_hasCycle_72 (kk := ?_)
          refine gx_iinc C 3 (nI (k + 1)) _ dd_Ma_hasCycle_73 (nI_1 k) (kk := ?_)
          refine gx_goto C 11 dd_Ma_hasCycle_76 (kk := ?_)
          refine gx_loc [0, 1, 4] ?_
          rw [show j = (am_ar a).length by omega, List.take_length] at hbs
          exact ih (k + 1) b (by omega) hbs
        | succ m ihI =>
          intro j b hj hbs
          obtain ⟨x, hx⟩ : ∃ x, (am_ar a)[j]? = some x := ⟨_, List.getElem?_eq_getElem (by omega)⟩
          obtain ⟨hx1, hx2⟩ := hM.2.2.2.2 _ _ hx
          have hxb := hb x (List.mem_of_getElem? hx)
          have hn1 := hnd x (List.mem_of_getElem? hx)
          refine gx_iload C 0 dd_Ma_hasCycle_24 (kk := ?_)
          refine gx_aload_n C 4 dd_Ma_hasCycle_26 (kk := ?_)
          refine gm_get C fd_Ma_41 hi dd_Ma_hasCycle_27 (kk := ?_)
          refine gx_topi _ hM.2.2.2.1 ?_
          refine gx_icmp_ge C 71 dd_Ma_hasCycle_30 (fun h30 => absurd h30 (nI_ge (by omega) (by omega))) (fun h30 => ?_)
          refine gx_iload_n C 3 dd_Ma_hasCycle_33 (kk := ?_)
          refine gx_aload_n C 4 dd_Ma_hasCycle_34 (kk := ?_)
          refine gm_get C fd_Ma_27 (by assumption) dd_Ma_hasCycle_35 (kk := ?_)
          refine gx_iload C 0 dd_Ma_hasCycle_38 (kk := ?_)
          refine gm_ln_k C hi dd_Ma_hasCycle_40 (by omega) (kk := ?_)
          refine gx_topi _ hx1 ?_
          refine gx_callS C (ct_WM_toOf (gx_l K) D dA _ x.1 (by omega)) me_WM_toOf ml_Ma_67 ms_WM_toOf dd_Ma_hasCycle_41 (kk := fun v w hq => ?_)
          obtain ⟨rfl, rfl⟩ := hq
          refine gx_callS C (ct_WM_isIn (gx_l K) D dA _ g (x.1 % 16) (by have := hg.1; omega) (by omega)) me_WM_isIn ml_Ma_73 ms_WM_isIn dd_Ma_hasCycle_44 (kk := fun v w hq => ?_)
          obtain ⟨rfl, rfl⟩ := hq
          refine gx_if_eq C 65 dd_Ma_hasCycle_47 (fun h47 => ?_) (fun h47 => ?_)
          · refine gx_iinc C 0 (nI (j + 1)) _ dd_Ma_hasCycle_65 (nI_1 j) (kk := ?_)
            refine gx_goto C 24 dd_Ma_hasCycle_68 (kk := ?_)
            have hb2 := bw_s hx hbs (by omega) _ (hg.2 (x.1 % 16) (by omega))
            rw [fb_0] at h47
            rw [h47, if_neg (by decide)] at hb2
            exact ihI (j + 1) _ (by omega) hb2
          · refine gx_iload_n C 1 dd_Ma_hasCycle_50 (kk := ?_)
            refine gx_iconst (v := nI 1) C dd_Ma_hasCycle_51 (kk := ?_)
            refine gx_aload_n C 4 dd_Ma_hasCycle_52 (kk := ?_)
            refine gm_get C fd_Ma_27 (by assumption) dd_Ma_hasCycle_53 (kk := ?_)
            refine gx_iload C 0 dd_Ma_hasCycle_56 (kk := ?_)
            refine gm_ln_k C hi dd_Ma_hasCycle_58 (by omega) (kk := ?_)
            refine gx_topi _ hx1 ?_
            refine gx_callS C (ct_WM_fromOf (gx_l K) D dA _ x.1 (by omega)) me_WM_fromOf ml_Ma_64 ms_WM_fromOf dd_Ma_hasCycle_59 (kk := fun v w hq => ?_)
            obtain ⟨rfl, rfl⟩ := hq
            refine gx_ishl C dd_Ma_hasCycle_62 (kk := ?_)
            refine gx_topi _ (bs_shl (by omega)) ?_
            refine gx_ior C dd_Ma_hasCycle_63 (kk := ?_)
            refine gx_topi _ (bs_or _ _) ?_
            refine gx_istore_n C _ dd_Ma_hasCycle_64 (kk := ?_)
            refine gx_iinc C 1 (nI (j + 1)) _ dd_Ma_hasCycle_65 (nI_1 j) (kk := ?_)
            refine gx_goto C 24 dd_Ma_hasCycle_68 (kk := ?_)
            have hb2 := bw_s hx hbs (by omega) _ (hg.2 (x.1 % 16) (by omega))
            rw [fb_0] at h47
            rw [if_pos (ts_nf h47)] at hb2
            exact ihI (j + 1) _ (by omega) hb2
      refine gx_iload_n C 0 dd_Ma_hasCycle_11 (kk := ?_)
      refine gx_aload_n C 2 dd_Ma_hasCycle_12 (kk := ?_)
      refine gm_get C fd_Ma_34 hi dd_Ma_hasCycle_13 (kk := ?_)
      refine gx_topi _ hM.1 ?_
      refine gx_icmp_ge C 79 dd_Ma_hasCycle_16 (fun h16 => absurd h16 (nI_ge (by omega) (by omega))) (fun h16 => ?_)
      refine gx_iconst (v := nI 0) C dd_Ma_hasCycle_19 (kk := ?_)
      refine gx_istore_n C _ dd_Ma_hasCycle_20 (kk := ?_)
      refine gx_iconst (v := nI 0) C dd_Ma_hasCycle_21 (kk := ?_)
      refine gx_istore C _ dd_Ma_hasCycle_22 (kk := ?_)
      exact inner (am_ar a).length 0 0 (by omega) bw_0
  refine gx_iconst (v := nI 1) C dd_Ma_hasCycle_0 (kk := ?_)
  refine gx_aload_n C 0 dd_Ma_hasCycle_1 (kk := ?_)
  refine gm_get C fd_Ma_34 hi dd_Ma_hasCycle_2 (kk := ?_)
  refine gx_topi _ hM.1 ?_
  refine gx_ishl C dd_Ma_hasCycle_5 (kk := ?_)
  refine gx_topi _ (bs_shl (by omega)) ?_
  refine gx_iconst (v := nI 1) C dd_Ma_hasCycle_6 (kk := ?_)
  refine gx_isub C dd_Ma_hasCycle_7 (kk := ?_)
  refine gx_topi _ (pk_sub (Nat.two_pow_pos _)) ?_
  refine gx_istore_n C _ dd_Ma_hasCycle_8 (kk := ?_)
  refine gx_iconst (v := nI 0) C dd_Ma_hasCycle_9 (kk := ?_)
  refine gx_istore_n C _ dd_Ma_hasCycle_10 (kk := ?_)
  exact loop (am_n a) 0 _ (by omega) (bw_n hn)
