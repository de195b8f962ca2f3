theorem dd_WM_compose_0 : decode cc_WM_compose 0 = .ok (.iload_n 1, 1) := by decide +kernel
theorem dd_WM_compose_1 : decode cc_WM_compose 1 = .ok (.invokestatic 76, 3) := by decide +kernel
theorem dd_WM_compose_4 : decode cc_WM_compose 4 = .ok (.ifCond .eq 17, 3) := by decide +kernel
theorem dd_WM_compose_7 : decode cc_WM_compose 7 = .ok (.iload_n 2, 1) := by decide +kernel
theorem dd_WM_compose_8 : decode cc_WM_compose 8 = .ok (.invokestatic 76, 3) := by decide +kernel
theorem dd_WM_compose_11 : decode cc_WM_compose 11 = .ok (.ifCond .eq 10, 3) := by decide +kernel
theorem dd_WM_compose_14 : decode cc_WM_compose 14 = .ok (.iload_n 3, 1) := by decide +kernel
theorem dd_WM_compose_15 : decode cc_WM_compose 15 = .ok (.invokestatic 76, 3) := by decide +kernel
theorem dd_WM_compose_18 : decode cc_WM_compose 18 = .ok (.ifCond .ne 5, 3) := by decide +kernel
theorem dd_WM_compose_21 : decode cc_WM_compose 21 = .ok (.iconst (-1), 1) := by decide +kernel
theorem dd_WM_compose_22 : decode cc_WM_compose 22 = .ok (.ireturn, 1) := by decide +kernel
theorem dd_WM_compose_23 : decode cc_WM_compose 23 = .ok (.aload_n 0, 1) := by decide +kernel
theorem dd_WM_compose_24 : decode cc_WM_compose 24 = .ok (.getfield 23, 3) := by decide +kernel
theorem dd_WM_compose_27 : decode cc_WM_compose 27 = .ok (.aload_n 0, 1) := by decide +kernel
theorem dd_WM_compose_28 : decode cc_WM_compose 28 = .ok (.getfield 11, 3) := by decide +kernel
theorem dd_WM_compose_31 : decode cc_WM_compose 31 = .ok (.iload_n 1, 1) := by decide +kernel
theorem dd_WM_compose_32 : decode cc_WM_compose 32 = .ok (.aaload, 1) := by decide +kernel
theorem dd_WM_compose_33 : decode cc_WM_compose 33 = .ok (.aload_n 0, 1) := by decide +kernel
theorem dd_WM_compose_34 : decode cc_WM_compose 34 = .ok (.getfield 11, 3) := by decide +kernel
theorem dd_WM_compose_37 : decode cc_WM_compose 37 = .ok (.iload_n 2, 1) := by decide +kernel
theorem dd_WM_compose_38 : decode cc_WM_compose 38 = .ok (.aaload, 1) := by decide +kernel
theorem dd_WM_compose_39 : decode cc_WM_compose 39 = .ok (.aload_n 0, 1) := by decide +kernel
theorem dd_WM_compose_40 : decode cc_WM_compose 40 = .ok (.getfield 16, 3) := by decide +kernel
theorem dd_WM_compose_43 : decode cc_WM_compose 43 = .ok (.invokevirtual 112, 3) := by decide +kernel
theorem dd_WM_compose_46 : decode cc_WM_compose 46 = .ok (.istore 4, 2) := by decide +kernel
theorem dd_WM_compose_48 : decode cc_WM_compose 48 = .ok (.aload_n 0, 1) := by decide +kernel
theorem dd_WM_compose_49 : decode cc_WM_compose 49 = .ok (.iload 4, 2) := by decide +kernel
theorem dd_WM_compose_51 : decode cc_WM_compose 51 = .ok (.iload_n 3, 1) := by decide +kernel
theorem dd_WM_compose_52 : decode cc_WM_compose 52 = .ok (.invokevirtual 116, 3) := by decide +kernel
theorem dd_WM_compose_55 : decode cc_WM_compose 55 = .ok (.ifCond .eq 15, 3) := by decide +kernel
theorem dd_WM_compose_58 : decode cc_WM_compose 58 = .ok (.aload_n 0, 1) := by decide +kernel
theorem dd_WM_compose_59 : decode cc_WM_compose 59 = .ok (.getfield 11, 3) := by decide +kernel
theorem dd_WM_compose_62 : decode cc_WM_compose 62 = .ok (.iload_n 3, 1) := by decide +kernel
theorem dd_WM_compose_63 : decode cc_WM_compose 63 = .ok (.aaload, 1) := by decide +kernel
theorem dd_WM_compose_64 : decode cc_WM_compose 64 = .ok (.getfield 120, 3) := by decide +kernel
theorem dd_WM_compose_67 : decode cc_WM_compose 67 = .ok (.goto 5, 3) := by decide +kernel
theorem dd_WM_compose_70 : decode cc_WM_compose 70 = .ok (.bipush (-2), 2) := by decide +kernel
theorem dd_WM_compose_72 : decode cc_WM_compose 72 = .ok (.ireturn, 1) := by decide +kernel
theorem dd_WM_bare_0 : decode cc_WM_bare 0 = .ok (.iload_n 1, 1) := by decide +kernel
theorem dd_WM_bare_1 : decode cc_WM_bare 1 = .ok (.invokestatic 76, 3) := by decide +kernel
theorem dd_WM_bare_4 : decode cc_WM_bare 4 = .ok (.ifCond .eq 10, 3) := by decide +kernel
theorem dd_WM_bare_7 : decode cc_WM_bare 7 = .ok (.iload_n 2, 1) := by decide +kernel
theorem dd_WM_bare_8 : decode cc_WM_bare 8 = .ok (.invokestatic 76, 3) := by decide +kernel
theorem dd_WM_bare_11 : decode cc_WM_bare 11 = .ok (.ifCond .ne 5, 3) := by decide +kernel
theorem dd_WM_bare_14 : decode cc_WM_bare 14 = .ok (.iconst (-1), 1) := by decide +kernel
theorem dd_WM_bare_15 : decode cc_WM_bare 15 = .ok (.ireturn, 1) := by decide +kernel
theorem dd_WM_bare_16 : decode cc_WM_bare 16 = .ok (.aload_n 0, 1) := by decide +kernel
theorem dd_WM_bare_17 : decode cc_WM_bare 17 = .ok (.getfield 30, 3) := by decide +kernel
theorem dd_WM_bare_20 : decode cc_WM_bare 20 = .ok (.aload_n 0, 1) := by decide +kernel
theorem dd_WM_bare_21 : decode cc_WM_bare 21 = .ok (.getfield 11, 3) := by decide +kernel
theorem dd_WM_bare_24 : decode cc_WM_bare 24 = .ok (.iload_n 1, 1) := by decide +kernel
theorem dd_WM_bare_25 : decode cc_WM_bare 25 = .ok (.aaload, 1) := by decide +kernel
theorem dd_WM_bare_26 : decode cc_WM_bare 26 = .ok (.aload_n 0, 1) := by decide +kernel
theorem dd_WM_bare_27 : decode cc_WM_bare 27 = .ok (.getfield 16, 3) := by decide +kernel
theorem dd_WM_bare_30 : decode cc_WM_bare 30 = .ok (.invokevirtual 123, 3) := by decide +kernel
theorem dd_WM_bare_33 : decode cc_WM_bare 33 = .ok (.istore_n 3, 1) := by decide +kernel
theorem dd_WM_bare_34 : decode cc_WM_bare 34 = .ok (.aload_n 0, 1) := by decide +kernel
theorem dd_WM_bare_35 : decode cc_WM_bare 35 = .ok (.iload_n 3, 1) := by decide +kernel
theorem dd_WM_bare_36 : decode cc_WM_bare 36 = .ok (.iload_n 2, 1) := by decide +kernel
theorem dd_WM_bare_37 : decode cc_WM_bare 37 = .ok (.invokevirtual 116, 3) := by decide +kernel
theorem dd_WM_bare_40 : decode cc_WM_bare 40 = .ok (.ifCond .eq 15, 3) := by decide +kernel
theorem dd_WM_bare_43 : decode cc_WM_bare 43 = .ok (.aload_n 0, 1) := by decide +kernel
theorem dd_WM_bare_44 : decode cc_WM_bare 44 = .ok (.getfield 11, 3) := by decide +kernel
theorem dd_WM_bare_47 : decode cc_WM_bare 47 = .ok (.iload_n 2, 1) := by decide +kernel
theorem dd_WM_bare_48 : decode cc_WM_bare 48 = .ok (.aaload, 1) := by decide +kernel
theorem dd_WM_bare_49 : decode cc_WM_bare 49 = .ok (.getfield 108, 3) := by decide +kernel
theorem dd_WM_bare_52 : decode cc_WM_bare 52 = .ok (.goto 5, 3) := by decide +kernel
theorem dd_WM_bare_55 : decode cc_WM_bare 55 = .ok (.bipush (-2), 2) := by decide +kernel
theorem dd_WM_bare_57 : decode cc_WM_bare 57 = .ok (.ireturn, 1) := by decide +kernel
theorem dd_WM_determine_0 : decode cc_WM_determine 0 = .ok (.iload_n 1, 1) := by decide +kernel
theorem dd_WM_determine_1 : decode cc_WM_determine 1 = .ok (.invokestatic 76, 3) := by decide +kernel
theorem dd_WM_determine_4 : decode cc_WM_determine 4 = .ok (.ifCond .eq 10, 3) := by decide +kernel
theorem dd_WM_determine_7 : decode cc_WM_determine 7 = .ok (.iload_n 2, 1) := by decide +kernel
theorem dd_WM_determine_8 : decode cc_WM_determine 8 = .ok (.invokestatic 76, 3) := by decide +kernel
theorem dd_WM_determine_11 : decode cc_WM_determine 11 = .ok (.ifCond .ne 5, 3) := by decide +kernel
theorem dd_WM_determine_14 : decode cc_WM_determine 14 = .ok (.iconst (-1), 1) := by decide +kernel
theorem dd_WM_determine_15 : decode cc_WM_determine 15 = .ok (.ireturn, 1) := by decide +kernel
theorem dd_WM_determine_16 : decode cc_WM_determine 16 = .ok (.aload_n 0, 1) := by decide +kernel
theorem dd_WM_determine_17 : decode cc_WM_determine 17 = .ok (.getfield 11, 3) := by decide +kernel
theorem dd_WM_determine_20 : decode cc_WM_determine 20 = .ok (.iload_n 1, 1) := by decide +kernel
theorem dd_WM_determine_21 : decode cc_WM_determine 21 = .ok (.aaload, 1) := by decide +kernel
theorem dd_WM_determine_22 : decode cc_WM_determine 22 = .ok (.invokevirtual 126, 3) := by decide +kernel
theorem dd_WM_determine_25 : decode cc_WM_determine 25 = .ok (.ifCond .eq 15, 3) := by decide +kernel
theorem dd_WM_determine_28 : decode cc_WM_determine 28 = .ok (.aload_n 0, 1) := by decide +kernel
theorem dd_WM_determine_29 : decode cc_WM_determine 29 = .ok (.getfield 11, 3) := by decide +kernel
theorem dd_WM_determine_32 : decode cc_WM_determine 32 = .ok (.iload_n 1, 1) := by decide +kernel
theorem dd_WM_determine_33 : decode cc_WM_determine 33 = .ok (.aaload, 1) := by decide +kernel
theorem dd_WM_determine_34 : decode cc_WM_determine 34 = .ok (.invokevirtual 130, 3) := by decide +kernel
theorem dd_WM_determine_37 : decode cc_WM_determine 37 = .ok (.ifCond .eq 6, 3) := by decide +kernel
theorem dd_WM_determine_40 : decode cc_WM_determine 40 = .ok (.bipush (-3), 2) := by decide +kernel
theorem dd_WM_determine_42 : decode cc_WM_determine 42 = .ok (.ireturn, 1) := by decide +kernel
theorem dd_WM_determine_43 : decode cc_WM_determine 43 = .ok (.aload_n 0, 1) := by decide +kernel
theorem dd_WM_determine_44 : decode cc_WM_determine 44 = .ok (.getfield 37, 3) := by decide +kernel
theorem dd_WM_determine_47 : decode cc_WM_determine 47 = .ok (.aload_n 0, 1) := by decide +kernel
theorem dd_WM_determine_48 : decode cc_WM_determine 48 = .ok (.getfield 11, 3) := by decide +kernel
theorem dd_WM_determine_51 : decode cc_WM_determine 51 = .ok (.iload_n 1, 1) := by decide +kernel
theorem dd_WM_determine_52 : decode cc_WM_determine 52 = .ok (.aaload, 1) := by decide +kernel
theorem dd_WM_determine_53 : decode cc_WM_determine 53 = .ok (.aload_n 0, 1) := by decide +kernel
theorem dd_WM_determine_54 : decode cc_WM_determine 54 = .ok (.getfield 16, 3) := by decide +kernel
theorem dd_WM_determine_57 : decode cc_WM_determine 57 = .ok (.invokevirtual 133, 3) := by decide +kernel
theorem dd_WM_determine_60 : decode cc_WM_determine 60 = .ok (.istore_n 3, 1) := by decide +kernel
theorem dd_WM_determine_61 : decode cc_WM_determine 61 = .ok (.aload_n 0, 1) := by decide +kernel
theorem dd_WM_determine_62 : decode cc_WM_determine 62 = .ok (.iload_n 3, 1) := by decide +kernel
theorem dd_WM_determine_63 : decode cc_WM_determine 63 = .ok (.iload_n 2, 1) := by decide +kernel
theorem dd_WM_determine_64 : decode cc_WM_determine 64 = .ok (.invokevirtual 116, 3) := by decide +kernel
theorem dd_WM_determine_67 : decode cc_WM_determine 67 = .ok (.ifCond .eq 15, 3) := by decide +kernel
theorem dd_WM_determine_70 : decode cc_WM_determine 70 = .ok (.aload_n 0, 1) := by decide +kernel
theorem dd_WM_determine_71 : decode cc_WM_determine 71 = .ok (.getfield 11, 3) := by decide +kernel
theorem dd_WM_determine_74 : decode cc_WM_determine 74 = .ok (.iload_n 2, 1) := by decide +kernel
theorem dd_WM_determine_75 : decode cc_WM_determine 75 = .ok (.aaload, 1) := by decide +kernel
theorem dd_WM_determine_76 : decode cc_WM_determine 76 = .ok (.getfield 120, 3) := by decide +kernel
theorem dd_WM_determine_79 : decode cc_WM_determine 79 = .ok (.goto 5, 3) := by decide +kernel
theorem dd_WM_determine_82 : decode cc_WM_determine 82 = .ok (.bipush (-2), 2) := by decide +kernel
theorem dd_WM_determine_84 : decode cc_WM_determine 84 = .ok (.ireturn, 1) := by decide +kernel
theorem dd_WM_push_0 : decode cc_WM_push 0 = .ok (.iload_n 1, 1) := by decide +kernel
theorem dd_WM_push_1 : decode cc_WM_push 1 = .ok (.invokestatic 76, 3) := by decide +kernel
theorem dd_WM_push_4 : decode cc_WM_push 4 = .ok (.ifCond .eq 10, 3) := by decide +kernel
theorem dd_WM_push_7 : decode cc_WM_push 7 = .ok (.iload_n 2, 1) := by decide +kernel
theorem dd_WM_push_8 : decode cc_WM_push 8 = .ok (.invokestatic 76, 3) := by decide +kernel
theorem dd_WM_push_11 : decode cc_WM_push 11 = .ok (.ifCond .ne 5, 3) := by decide +kernel
theorem dd_WM_push_14 : decode cc_WM_push 14 = .ok (.iconst (-1), 1) := by decide +kernel
theorem dd_WM_push_15 : decode cc_WM_push 15 = .ok (.ireturn, 1) := by decide +kernel
theorem dd_WM_push_16 : decode cc_WM_push 16 = .ok (.aload_n 0, 1) := by decide +kernel
theorem dd_WM_push_17 : decode cc_WM_push 17 = .ok (.getfield 44, 3) := by decide +kernel
theorem dd_WM_push_20 : decode cc_WM_push 20 = .ok (.aload_n 0, 1) := by decide +kernel
theorem dd_WM_push_21 : decode cc_WM_push 21 = .ok (.getfield 11, 3) := by decide +kernel
theorem dd_WM_push_24 : decode cc_WM_push 24 = .ok (.iload_n 1, 1) := by decide +kernel
theorem dd_WM_push_25 : decode cc_WM_push 25 = .ok (.aaload, 1) := by decide +kernel
theorem dd_WM_push_26 : decode cc_WM_push 26 = .ok (.invokevirtual 134, 3) := by decide +kernel
theorem dd_WM_push_29 : decode cc_WM_push 29 = .ok (.aload_n 0, 1) := by decide +kernel
theorem dd_WM_push_30 : decode cc_WM_push 30 = .ok (.aload_n 0, 1) := by decide +kernel
theorem dd_WM_push_31 : decode cc_WM_push 31 = .ok (.getfield 11, 3) := by decide +kernel
theorem dd_WM_push_34 : decode cc_WM_push 34 = .ok (.iload_n 1, 1) := by decide +kernel
theorem dd_WM_push_35 : decode cc_WM_push 35 = .ok (.aaload, 1) := by decide +kernel
theorem dd_WM_push_36 : decode cc_WM_push 36 = .ok (.invokevirtual 138, 3) := by decide +kernel
theorem dd_WM_push_39 : decode cc_WM_push 39 = .ok (.aload_n 0, 1) := by decide +kernel
theorem dd_WM_push_40 : decode cc_WM_push 40 = .ok (.iconst 1, 1) := by decide +kernel
theorem dd_WM_push_41 : decode cc_WM_push 41 = .ok (.iload_n 2, 1) := by decide +kernel
theorem dd_WM_push_42 : decode cc_WM_push 42 = .ok (.invokevirtual 116, 3) := by decide +kernel
theorem dd_WM_push_45 : decode cc_WM_push 45 = .ok (.ifCond .eq 15, 3) := by decide +kernel
theorem dd_WM_push_48 : decode cc_WM_push 48 = .ok (.aload_n 0, 1) := by decide +kernel
theorem dd_WM_push_49 : decode cc_WM_push 49 = .ok (.getfield 11, 3) := by decide +kernel
theorem dd_WM_push_52 : decode cc_WM_push 52 = .ok (.iload_n 2, 1) := by decide +kernel
theorem dd_WM_push_53 : decode cc_WM_push 53 = .ok (.aaload, 1) := by decide +kernel
theorem dd_WM_push_54 : decode cc_WM_push 54 = .ok (.getfield 108, 3) := by decide +kernel
theorem dd_WM_push_57 : decode cc_WM_push 57 = .ok (.goto 5, 3) := by decide +kernel
theorem dd_WM_push_60 : decode cc_WM_push 60 = .ok (.bipush (-2), 2) := by decide +kernel
theorem dd_WM_push_62 : decode cc_WM_push 62 = .ok (.ireturn, 1) := by decide +kernel
theorem dd_WM_trim_0 : decode cc_WM_trim 0 = .ok (.iload_n 1, 1) := by decide +kernel
theorem dd_WM_trim_1 : decode cc_WM_trim 1 = .ok (.invokestatic 76, 3) := by decide +kernel
theorem dd_WM_trim_4 : decode cc_WM_trim 4 = .ok (.ifCond .eq 10, 3) := by decide +kernel
theorem dd_WM_trim_7 : decode cc_WM_trim 7 = .ok (.iload_n 2, 1) := by decide +kernel
theorem dd_WM_trim_8 : decode cc_WM_trim 8 = .ok (.invokestatic 76, 3) := by decide +kernel
theorem dd_WM_trim_11 : decode cc_WM_trim 11 = .ok (.ifCond .ne 5, 3) := by decide +kernel
theorem dd_WM_trim_14 : decode cc_WM_trim 14 = .ok (.iconst (-1), 1) := by decide +kernel
theorem dd_WM_trim_15 : decode cc_WM_trim 15 = .ok (.ireturn, 1) := by decide +kernel
theorem dd_WM_trim_16 : decode cc_WM_trim 16 = .ok (.aload_n 0, 1) := by decide +kernel
theorem dd_WM_trim_17 : decode cc_WM_trim 17 = .ok (.aload_n 0, 1) := by decide +kernel
theorem dd_WM_trim_18 : decode cc_WM_trim 18 = .ok (.getfield 11, 3) := by decide +kernel
theorem dd_WM_trim_21 : decode cc_WM_trim 21 = .ok (.iload_n 1, 1) := by decide +kernel
theorem dd_WM_trim_22 : decode cc_WM_trim 22 = .ok (.aaload, 1) := by decide +kernel
theorem dd_WM_trim_23 : decode cc_WM_trim 23 = .ok (.invokevirtual 141, 3) := by decide +kernel
theorem dd_WM_trim_26 : decode cc_WM_trim 26 = .ok (.aload_n 0, 1) := by decide +kernel
theorem dd_WM_trim_27 : decode cc_WM_trim 27 = .ok (.iconst 1, 1) := by decide +kernel
theorem dd_WM_trim_28 : decode cc_WM_trim 28 = .ok (.iload_n 2, 1) := by decide +kernel
theorem dd_WM_trim_29 : decode cc_WM_trim 29 = .ok (.invokevirtual 116, 3) := by decide +kernel
theorem dd_WM_trim_32 : decode cc_WM_trim 32 = .ok (.ifCond .eq 15, 3) := by decide +kernel
theorem dd_WM_trim_35 : decode cc_WM_trim 35 = .ok (.aload_n 0, 1) := by decide +kernel
theorem dd_WM_trim_36 : decode cc_WM_trim 36 = .ok (.getfield 11, 3) := by decide +kernel
theorem dd_WM_trim_39 : decode cc_WM_trim 39 = .ok (.iload_n 2, 1) := by decide +kernel
theorem dd_WM_trim_40 : decode cc_WM_trim 40 = .ok (.aaload, 1) := by decide +kernel
theorem dd_WM_trim_41 : decode cc_WM_trim 41 = .ok (.getfield 120, 3) := by decide +kernel
theorem dd_WM_trim_44 : decode cc_WM_trim 44 = .ok (.goto 5, 3) := by decide +kernel
theorem dd_WM_trim_47 : decode cc_WM_trim 47 = .ok (.bipush (-2), 2) := by decide +kernel
theorem dd_WM_trim_49 : decode cc_WM_trim 49 = .ok (.ireturn, 1) := by decide +kernel
theorem dd_WM_parse_0 : decode cc_WM_parse 0 = .ok (.iload_n 1, 1) := by decide +kernel
theorem dd_WM_parse_1 : decode cc_WM_parse 1 = .ok (.invokestatic 76, 3) := by decide +kernel
theorem dd_WM_parse_4 : decode cc_WM_parse 4 = .ok (.ifCond .ne 5, 3) := by decide +kernel
theorem dd_WM_parse_7 : decode cc_WM_parse 7 = .ok (.iconst (-1), 1) := by decide +kernel
theorem dd_WM_parse_8 : decode cc_WM_parse 8 = .ok (.ireturn, 1) := by decide +kernel
theorem dd_WM_parse_9 : decode cc_WM_parse 9 = .ok (.aload_n 0, 1) := by decide +kernel
theorem dd_WM_parse_10 : decode cc_WM_parse 10 = .ok (.getfield 72, 3) := by decide +kernel
theorem dd_WM_parse_13 : decode cc_WM_parse 13 = .ok (.aload_n 0, 1) := by decide +kernel
theorem dd_WM_parse_14 : decode cc_WM_parse 14 = .ok (.getfield 65, 3) := by decide +kernel
theorem dd_WM_parse_17 : decode cc_WM_parse 17 = .ok (.aload_n 0, 1) := by decide +kernel
theorem dd_WM_parse_18 : decode cc_WM_parse 18 = .ok (.getfield 16, 3) := by decide +kernel
theorem dd_WM_parse_21 : decode cc_WM_parse 21 = .ok (.invokevirtual 192, 3) := by decide +kernel
theorem dd_WM_parse_24 : decode cc_WM_parse 24 = .ok (.istore_n 2, 1) := by decide +kernel
theorem dd_WM_parse_25 : decode cc_WM_parse 25 = .ok (.iload_n 2, 1) := by decide +kernel
theorem dd_WM_parse_26 : decode cc_WM_parse 26 = .ok (.ifCond .eq 5, 3) := by decide +kernel
theorem dd_WM_parse_29 : decode cc_WM_parse 29 = .ok (.iload_n 2, 1) := by decide +kernel
theorem dd_WM_parse_30 : decode cc_WM_parse 30 = .ok (.ireturn, 1) := by decide +kernel
theorem dd_WM_parse_31 : decode cc_WM_parse 31 = .ok (.aload_n 0, 1) := by decide +kernel
theorem dd_WM_parse_32 : decode cc_WM_parse 32 = .ok (.iconst 1, 1) := by decide +kernel
theorem dd_WM_parse_33 : decode cc_WM_parse 33 = .ok (.iload_n 1, 1) := by decide +kernel
theorem dd_WM_parse_34 : decode cc_WM_parse 34 = .ok (.invokevirtual 116, 3) := by decide +kernel
theorem dd_WM_parse_37 : decode cc_WM_parse 37 = .ok (.ifCond .eq 15, 3) := by decide +kernel
theorem dd_WM_parse_40 : decode cc_WM_parse 40 = .ok (.aload_n 0, 1) := by decide +kernel
theorem dd_WM_parse_41 : decode cc_WM_parse 41 = .ok (.getfield 11, 3) := by decide +kernel
theorem dd_WM_parse_44 : decode cc_WM_parse 44 = .ok (.iload_n 1, 1) := by decide +kernel
theorem dd_WM_parse_45 : decode cc_WM_parse 45 = .ok (.aaload, 1) := by decide +kernel
theorem dd_WM_parse_46 : decode cc_WM_parse 46 = .ok (.getfield 108, 3) := by decide +kernel
theorem dd_WM_parse_49 : decode cc_WM_parse 49 = .ok (.goto 5, 3) := by decide +kernel
theorem dd_WM_parse_52 : decode cc_WM_parse 52 = .ok (.bipush (-2), 2) := by decide +kernel
theorem dd_WM_parse_54 : decode cc_WM_parse 54 = .ok (.ireturn, 1) := by decide +kernel
set_option maxRecDepth 100000 in
set_option maxHeartbeats 4000000 in
theorem ct_WM_compose (l : Launch) (D : va_G) (dA : Nat → ClassId) (ad : Nat → Nat) (mm : Nat → gm_V) (r : Nat → va_E) {σ : sg} (hc : cs dA ad mm r σ) (hσ : sg_ok σ) (a b0 c0 : Int32) : gx_Ct l D dA yy_WM_compose cc_WM_compose 5 (some .int) 6 0 0 [.ref (ad 0), .int a, .int b0, .int c0] (gx_w ad (gm_h dA ad mm r)) (fun v w => ∃ mm2 r2, w = gx_w ad (gm_h dA ad mm2 r2) ∧ cs dA ad mm2 r2 (o_compose σ a b0 c0).2 ∧ (∀ k, 43 ≤ k → r2 k = r k) ∧ v = some (.int (o_compose σ a b0 c0).1)) := by
  refine gx_of (by decide) (Nat.le_of_ble_eq_true rfl) (fun K C _ _ => ?_)
  obtain ⟨π, f, hπ, hc0, hc1, hf, hM, hR⟩ := cs_get hc
  have hπ4 := hπ.1
  have hπ45 := hπ.1 4 (by decide)
  refine gx_iload_n C 1 dd_WM_compose_0 (kk := ?_)
  refine gx_callS C (ct_WM_isSlot (gx_l K) D dA _ a) me_WM_isSlot ml_WM_76 ms_WM_isSlot dd_WM_compose_1 (kk := fun v w hq => ?_)
  obtain ⟨rfl, rfl⟩ := hq
  refine gx_topi _ ix_b ?_
  rcases hi : ix 4 a with _ | i
  · refine gx_if_eq C 21 dd_WM_compose_4 (fun h4 => ?_) (fun h4 => absurd rfl h4)
    refine gx_iconst (v := -1) C dd_WM_compose_21 (kk := ?_)
    refine gx_iret C dd_WM_compose_22 ?_
    have hsp : o_compose σ a b0 c0 = (-1, σ) := by
      unfold o_compose
      simp only [hi]
    rw [hsp]
    exact ⟨mm, r, rfl, hc, fun _ _ => rfl, rfl⟩
  · obtain ⟨hi4, rfl⟩ := ix_of (by decide) hi
    refine gx_if_eq C 21 dd_WM_compose_4 (fun h4 => absurd (show true = false from fb_0.mp h4) (by decide)) (fun h4 => ?_)
    refine gx_iload_n C 2 dd_WM_compose_7 (kk := ?_)
    refine gx_callS C (ct_WM_isSlot (gx_l K) D dA _ b0) me_WM_isSlot ml_WM_76 ms_WM_isSlot dd_WM_compose_8 (kk := fun v w hq => ?_)
    obtain ⟨rfl, rfl⟩ := hq
    refine gx_topi _ ix_b ?_
    rcases hj : ix 4 b0 with _ | j
    · refine gx_if_eq C 21 dd_WM_compose_11 (fun h11 => ?_) (fun h11 => absurd rfl h11)
      refine gx_iconst (v := -1) C dd_WM_compose_21 (kk := ?_)
      refine gx_iret C dd_WM_compose_22 ?_
      have hsp : o_compose σ (nI i) b0 c0 = (-1, σ) := by
        unfold o_compose
        simp only [hi, hj]
      rw [hsp]
      exact ⟨mm, r, rfl, hc, fun _ _ => rfl, rfl⟩
    · obtain ⟨hj4, rfl⟩ := ix_of (by decide) hj
      refine gx_if_eq C 21 dd_WM_compose_11 (fun h11 => absurd (show true = false from fb_0.mp h11) (by decide)) (fun h11 => ?_)
      refine gx_iload_n C 3 dd_WM_compose_14 (kk := ?_)
      refine gx_callS C (ct_WM_isSlot (gx_l K) D dA _ c0) me_WM_isSlot ml_WM_76 ms_WM_isSlot dd_WM_compose_15 (kk := fun v w hq => ?_)
      obtain ⟨rfl, rfl⟩ := hq
      refine gx_topi _ ix_b ?_
      rcases hz : ix 4 c0 with _ | z
      · refine gx_if_ne C 23 dd_WM_compose_18 (fun h18 => absurd rfl h18) (fun h18 => ?_)
        refine gx_iconst (v := -1) C dd_WM_compose_21 (kk := ?_)
        refine gx_iret C dd_WM_compose_22 ?_
        have hsp : o_compose σ (nI i) (nI j) c0 = (-1, σ) := by
          unfold o_compose
          simp only [hi, hj, hz]
        rw [hsp]
        exact ⟨mm, r, rfl, hc, fun _ _ => rfl, rfl⟩
      · obtain ⟨hz4, rfl⟩ := ix_of (by decide) hz
        refine gx_if_ne C 23 dd_WM_compose_18 (fun h18 => ?_) (fun h18 => absurd (show true = false from fb_0.mp h18) (by decide))
        refine gx_aload_n C 0 dd_WM_compose_23 (kk := ?_)
        obtain ⟨x1, x2, x3, tri, hc22, hc23⟩ := hR.1
        refine gx_get C fd_WM_23 (gm_r hc0) dd_WM_compose_24 (kk := ?_)
        refine gx_aload_n C 0 dd_WM_compose_27 (kk := ?_)
        refine gx_get C fd_WM_11 (gm_r hc0) dd_WM_compose_28 (kk := ?_)
        refine gx_iload_n C 1 dd_WM_compose_31 (kk := ?_)
        refine gz_slot C hc1 hf dd_WM_compose_32 hi4 (kk := ?_)
        refine gx_aload_n C 0 dd_WM_compose_33 (kk := ?_)
        refine gx_get C fd_WM_11 (gm_r hc0) dd_WM_compose_34 (kk := ?_)
        refine gx_iload_n C 2 dd_WM_compose_37 (kk := ?_)
        refine gz_slot C hc1 hf dd_WM_compose_38 hj4 (kk := ?_)
        refine gx_aload_n C 0 dd_WM_compose_39 (kk := ?_)
        refine gx_get C fd_WM_16 (gm_r hc0) dd_WM_compose_40 (kk := ?_)
        refine gx_callV C (ct_Co_build (gx_l K) D dA ad mm r (ia := π i) (ib := π j) (im := π 4) hπ45 hc22 hc23 (a := σ.1 i) (hπ.1 i (by omega)) (fun e => absurd (hπ.2 i 4 (by omega) (by decide) e) (by omega)) (hM i hi4) (hσ.1 i hi4).1 (hσ.1 i hi4).2.1 (b := σ.1 j) (hπ.1 j (by omega)) (fun e => absurd (hπ.2 j 4 (by omega) (by decide) e) (by omega)) (hM j hj4) (hσ.1 j hj4).1 (hσ.1 j hj4).2.1) me_Co_build ml_WM_112 mn_Co_build _ (gx_w_at (by decide) (gm_r hc22)) rfl dd_WM_compose_43 (kk := fun v w hq => ?_)
        obtain ⟨M, r2, rfl, ⟨tri2, h22, h23⟩, ho2, hq⟩ := hq
        have h02 : r2 0 = wm_c ad (π 4) := (ho2 0 (by decide) (by decide)).trans hc0
        have h12 : r2 1 = wm_f dA f := (ho2 1 (by decide) (by decide)).trans hc1
        have hR2 : cs_R dA ad r2 σ := cs_R_a (fun k l1 l2 l3 => ho2 k (by omega) (by omega)) hR ⟨_, _, _, tri2, h22, h23⟩
        rcases hmk : co_mk (σ.1 i) (σ.1 j) with _ | b
        · rw [hmk] at hq
          have hq : v = some (.int (nI 0)) := hq
          subst hq
          refine gx_istore C _ dd_WM_compose_46 (kk := ?_)
          refine gx_aload_n C 1 dd_WM_compose_48 (kk := ?_)
          refine gx_iload C 0 dd_WM_compose_49 (kk := ?_)
          refine gx_iload_n C 4 dd_WM_compose_51 (kk := ?_)
          refine gx_callV C (ct_WM_take (gx_l K) D dA ad (va_up mm (π 4) M) r2 (π := π) (f := f) (β := false) (b := σ.1 0) (B := 0) (c := z) hπ h02 h12 hf (fun e => absurd e (by decide)) (by decide) hz4) me_WM_take ml_WM_116 mn_WM_take _ (gx_w_at (by decide) (gm_r h02)) rfl dd_WM_compose_52 (kk := fun v w hq => ?_)
          rcases hq with ⟨rfl, hβ, -⟩ | ⟨rfl, -, rfl⟩
          · exact absurd hβ (by decide)
          · refine gx_if_eq C 70 dd_WM_compose_55 (fun h55 => ?_) (fun h55 => absurd rfl h55)
            refine gx_bipush (v := -2) C dd_WM_compose_70 (kk := ?_)
            refine gx_iret C dd_WM_compose_72 ?_
            have hsp : o_compose σ (nI i) (nI j) (nI z) = (-2, σ) := by
              unfold o_compose
              simp only [hi, hj, hz, hmk, o_keep]
            rw [hsp]
            exact ⟨_, r2, rfl, cs_put hπ h02 h12 hf (cs_m4 hπ hM) hR2, fun k hk => ho2 k (by omega) (by omega), rfl⟩
        · rw [hmk] at hq
          obtain ⟨rfl, hMb⟩ := hq
          refine gx_istore C _ dd_WM_compose_46 (kk := ?_)
          refine gx_aload_n C 1 dd_WM_compose_48 (kk := ?_)
          refine gx_iload C 0 dd_WM_compose_49 (kk := ?_)
          refine gx_iload_n C 4 dd_WM_compose_51 (kk := ?_)
          refine gx_callV C (ct_WM_take (gx_l K) D dA ad (va_up mm (π 4) M) r2 (π := π) (f := f) (β := true) (b := b) (B := 4000000000) (c := z) hπ h02 h12 hf (fun _ => ⟨by rw [gm_us]; exact hMb.1, hMb.2.1⟩) (by decide) hz4) me_WM_take ml_WM_116 mn_WM_take _ (gx_w_at (by decide) (gm_r h02)) rfl dd_WM_compose_52 (kk := fun v w hq => ?_)
          rcases hq with ⟨rfl, -, hft, r3, f3, rfl, h03, h13, hs3, ho3⟩ | ⟨rfl, hft, rfl⟩
          · refine gx_if_eq C 70 dd_WM_compose_55 (fun h55 => absurd h55 (by decide)) (fun h55 => ?_)
            refine gx_aload_n C 1 dd_WM_compose_58 (kk := ?_)
            refine gx_get C fd_WM_11 (gm_r h03) dd_WM_compose_59 (kk := ?_)
            refine gx_iload_n C 4 dd_WM_compose_62 (kk := ?_)
            refine gz_slot C h13 hs3 dd_WM_compose_63 hz4 (kk := ?_)
            refine gm_get C fd_WM_120 ((cs_sw_pi hπ hz4).1 z (by omega)) dd_WM_compose_64 (kk := ?_)
            refine gx_topi (nI (am_n (b))) ?_ ?_
            · have hz5 := (cs_m5 (c := z) hπ hM hMb.1 z hz4).1
              rw [show (o_set σ z (b)).1 z = b from gm_us] at hz5
              exact hz5
            refine gx_goto C 72 dd_WM_compose_67 (kk := ?_)
            refine gx_iret C dd_WM_compose_72 ?_
            have hsp : o_compose σ (nI i) (nI j) (nI z) = (nI (am_n (b)), o_set σ z (b)) := by
              unfold o_compose
              simp only [hi, hj, hz, hmk, o_keep, hft, if_true]
            rw [hsp]
            exact ⟨_, r3, rfl, cs_put (cs_sw_pi hπ hz4) h03 h13 hs3 (cs_m5 hπ hM hMb.1) (cs_R_s (cs_R_0 (fun k l1 l2 => ho3 k (by omega) (by omega)) hR2)), fun k hk => (ho3 k (by omega) (by omega)).trans (ho2 k (by omega) (by omega)), rfl⟩
          · replace hft : am_fit (b) = false := hft.resolve_left (by decide)
            refine gx_if_eq C 70 dd_WM_compose_55 (fun h55 => ?_) (fun h55 => absurd rfl h55)
            refine gx_bipush (v := -2) C dd_WM_compose_70 (kk := ?_)
            refine gx_iret C dd_WM_compose_72 ?_
            have hsp : o_compose σ (nI i) (nI j) (nI z) = (-2, σ) := by
              unfold o_compose
              simp only [hi, hj, hz, hmk, o_keep, hft, Bool.false_eq_true, if_false]
            rw [hsp]
            exact ⟨_, r2, rfl, cs_put hπ h02 h12 hf (cs_m4 hπ hM) hR2, fun k hk => ho2 k (by omega) (by omega), rfl⟩
set_option maxRecDepth 100000 in
set_option maxHeartbeats 4000000 in
theorem ct_WM_bare (l : Launch) (D : va_G) (dA : Nat → ClassId) (ad : Nat → Nat) (mm : Nat → gm_V) (r : Nat → va_E) {σ : sg} (hc : cs dA ad mm r σ) (hσ : sg_ok σ) (a c0 : Int32) : gx_Ct l D dA yy_WM_bare cc_WM_bare 4 (some .int) 4 0 0 [.ref (ad 0), .int a, .int c0] (gx_w ad (gm_h dA ad mm r)) (fun v w => ∃ mm2 r2, w = gx_w ad (gm_h dA ad mm2 r2) ∧ cs dA ad mm2 r2 (o_bare σ a c0).2 ∧ (∀ k, 43 ≤ k → r2 k = r k) ∧ v = some (.int (o_bare σ a c0).1)) := by
  refine gx_of (by decide) (Nat.le_of_ble_eq_true rfl) (fun K C _ _ => ?_)
  obtain ⟨π, f, hπ, hc0, hc1, hf, hM, hR⟩ := cs_get hc
  have hπ4 := hπ.1
  have hπ45 := hπ.1 4 (by decide)
  refine gx_iload_n C 1 dd_WM_bare_0 (kk := ?_)
  refine gx_callS C (ct_WM_isSlot (gx_l K) D dA _ a) me_WM_isSlot ml_WM_76 ms_WM_isSlot dd_WM_bare_1 (kk := fun v w hq => ?_)
  obtain ⟨rfl, rfl⟩ := hq
  refine gx_topi _ ix_b ?_
  rcases hi : ix 4 a with _ | i
  · refine gx_if_eq C 14 dd_WM_bare_4 (fun h4 => ?_) (fun h4 => absurd rfl h4)
    refine gx_iconst (v := -1) C dd_WM_bare_14 (kk := ?_)
    refine gx_iret C dd_WM_bare_15 ?_
    have hsp : o_bare σ a c0 = (-1, σ) := by
      unfold o_bare
      simp only [hi]
    rw [hsp]
    exact ⟨mm, r, rfl, hc, fun _ _ => rfl, rfl⟩
  · obtain ⟨hi4, rfl⟩ := ix_of (by decide) hi
    refine gx_if_eq C 14 dd_WM_bare_4 (fun h4 => absurd (show true = false from fb_0.mp h4) (by decide)) (fun h4 => ?_)
    refine gx_iload_n C 2 dd_WM_bare_7 (kk := ?_)
    refine gx_callS C (ct_WM_isSlot (gx_l K) D dA _ c0) me_WM_isSlot ml_WM_76 ms_WM_isSlot dd_WM_bare_8 (kk := fun v w hq => ?_)
    obtain ⟨rfl, rfl⟩ := hq
    refine gx_topi _ ix_b ?_
    rcases hz : ix 4 c0 with _ | z
    · refine gx_if_ne C 16 dd_WM_bare_11 (fun h11 => absurd rfl h11) (fun h11 => ?_)
      refine gx_iconst (v := -1) C dd_WM_bare_14 (kk := ?_)
      refine gx_iret C dd_WM_bare_15 ?_
      have hsp : o_bare σ (nI i) c0 = (-1, σ) := by
        unfold o_bare
        simp only [hi, hz]
      rw [hsp]
      exact ⟨mm, r, rfl, hc, fun _ _ => rfl, rfl⟩
    · obtain ⟨hz4, rfl⟩ := ix_of (by decide) hz
      refine gx_if_ne C 16 dd_WM_bare_11 (fun h11 => ?_) (fun h11 => absurd (show true = false from fb_0.mp h11) (by decide))
      refine gx_aload_n C 0 dd_WM_bare_16 (kk := ?_)
      obtain ⟨f0, hc24, hc25⟩ := hR.2.1
      refine gx_get C fd_WM_30 (gm_r hc0) dd_WM_bare_17 (kk := ?_)
      refine gx_aload_n C 0 dd_WM_bare_20 (kk := ?_)
      refine gx_get C fd_WM_11 (gm_r hc0) dd_WM_bare_21 (kk := ?_)
      refine gx_iload_n C 1 dd_WM_bare_24 (kk := ?_)
      refine gz_slot C hc1 hf dd_WM_bare_25 hi4 (kk := ?_)
      refine gx_aload_n C 0 dd_WM_bare_26 (kk := ?_)
      refine gx_get C fd_WM_16 (gm_r hc0) dd_WM_bare_27 (kk := ?_)
      refine gx_callV C (ct_Ba_build (gx_l K) D dA ad mm r (ia := π i) (im := π 4) hπ45 (a := σ.1 i) (hπ.1 i (by omega)) (fun e => absurd (hπ.2 i 4 (by omega) (by decide) e) (by omega)) (hM i hi4) (hσ.1 i hi4).1 (hσ.1 i hi4).2.1 (hσ.1 i hi4).2.2.1 hc24 hc25) me_Ba_build ml_WM_123 mn_Ba_build _ (gx_w_at (by decide) (gm_r hc24)) rfl dd_WM_bare_30 (kk := fun v w hq => ?_)
      obtain ⟨M, r2, rfl, h24, ⟨f25, h25⟩, ho2, hq⟩ := hq
      have h02 : r2 0 = wm_c ad (π 4) := (ho2 0 (by decide)).trans hc0
      have h12 : r2 1 = wm_f dA f := (ho2 1 (by decide)).trans hc1
      have hR2 : cs_R dA ad r2 σ := cs_R_b (fun k l1 l2 l3 => ho2 k (by omega)) hR ⟨f25, h24, h25⟩
      rcases hmk : ba_mk (σ.1 i) with _ | b
      · rw [hmk] at hq
        have hq : v = some (.int (nI 0)) := hq
        subst hq
        refine gx_istore_n C _ dd_WM_bare_33 (kk := ?_)
        refine gx_aload_n C 1 dd_WM_bare_34 (kk := ?_)
        refine gx_iload_n C 0 dd_WM_bare_35 (kk := ?_)
        refine gx_iload_n C 3 dd_WM_bare_36 (kk := ?_)
        refine gx_callV C (ct_WM_take (gx_l K) D dA ad (va_up mm (π 4) M) r2 (π := π) (f := f) (β := false) (b := σ.1 0) (B := 0) (c := z) hπ h02 h12 hf (fun e => absurd e (by decide)) (by decide) hz4) me_WM_take ml_WM_116 mn_WM_take _ (gx_w_at (by decide) (gm_r h02)) rfl dd_WM_bare_37 (kk := fun v w hq => ?_)
        rcases hq with ⟨rfl, hβ, -⟩ | ⟨rfl, -, rfl⟩
        · exact absurd hβ (by decide)
        · refine gx_if_eq C 55 dd_WM_bare_40 (fun h40 => ?_) (fun h40 => absurd rfl h40)
          refine gx_bipush (v := -2) C dd_WM_bare_55 (kk := ?_)
          refine gx_iret C dd_WM_bare_57 ?_
          have hsp : o_bare σ (nI i) (nI z) = (-2, σ) := by
            unfold o_bare
            simp only [hi, hz, hmk, o_keep]
          rw [hsp]
          exact ⟨_, r2, rfl, cs_put hπ h02 h12 hf (cs_m4 hπ hM) hR2, fun k hk => ho2 k (by omega), rfl⟩
      · rw [hmk] at hq
        obtain ⟨rfl, hMb⟩ := hq
        refine gx_istore_n C _ dd_WM_bare_33 (kk := ?_)
        refine gx_aload_n C 1 dd_WM_bare_34 (kk := ?_)
        refine gx_iload_n C 0 dd_WM_bare_35 (kk := ?_)
        refine gx_iload_n C 3 dd_WM_bare_36 (kk := ?_)
        refine gx_callV C (ct_WM_take (gx_l K) D dA ad (va_up mm (π 4) M) r2 (π := π) (f := f) (β := true) (b := b) (B := 35184372088832) (c := z) hπ h02 h12 hf (fun _ => ⟨by rw [gm_us]; exact hMb.1, hMb.2.1⟩) (by decide) hz4) me_WM_take ml_WM_116 mn_WM_take _ (gx_w_at (by decide) (gm_r h02)) rfl dd_WM_bare_37 (kk := fun v w hq => ?_)
        rcases hq with ⟨rfl, -, hft, r3, f3, rfl, h03, h13, hs3, ho3⟩ | ⟨rfl, hft, rfl⟩
        · refine gx_if_eq C 55 dd_WM_bare_40 (fun h40 => absurd h40 (by decide)) (fun h40 => ?_)
          refine gx_aload_n C 1 dd_WM_bare_43 (kk := ?_)
          refine gx_get C fd_WM_11 (gm_r h03) dd_WM_bare_44 (kk := ?_)
          refine gx_iload_n C 3 dd_WM_bare_47 (kk := ?_)
          refine gz_slot C h13 hs3 dd_WM_bare_48 hz4 (kk := ?_)
          refine gm_get C fd_WM_108 ((cs_sw_pi hπ hz4).1 z (by omega)) dd_WM_bare_49 (kk := ?_)
          refine gx_topi (nI (am_c (b))) ?_ ?_
          · have hz5 := (cs_m5 (c := z) hπ hM hMb.1 z hz4).2.2.2.1
            rw [show (o_set σ z (b)).1 z = b from gm_us] at hz5
            exact hz5
          refine gx_goto C 57 dd_WM_bare_52 (kk := ?_)
          refine gx_iret C dd_WM_bare_57 ?_
          have hsp : o_bare σ (nI i) (nI z) = (nI (am_c (b)), o_set σ z (b)) := by
            unfold o_bare
            simp only [hi, hz, hmk, o_keep, hft, if_true]
          rw [hsp]
          exact ⟨_, r3, rfl, cs_put (cs_sw_pi hπ hz4) h03 h13 hs3 (cs_m5 hπ hM hMb.1) (cs_R_s (cs_R_0 (fun k l1 l2 => ho3 k (by omega) (by omega)) hR2)), fun k hk => (ho3 k (by omega) (by omega)).trans (ho2 k (by omega)), rfl⟩
        · replace hft : am_fit (b) = false := hft.resolve_left (by decide)
          refine gx_if_eq C 55 dd_WM_bare_40 (fun h40 => ?_) (fun h40 => absurd rfl h40)
          refine gx_bipush (v := -2) C dd_WM_bare_55 (kk := ?_)
          refine gx_iret C dd_WM_bare_57 ?_
          have hsp : o_bare σ (nI i) (nI z) = (-2, σ) := by
            unfold o_bare
            simp only [hi, hz, hmk, o_keep, hft, Bool.false_eq_true, if_false]
          rw [hsp]
          exact ⟨_, r2, rfl, cs_put hπ h02 h12 hf (cs_m4 hπ hM) hR2, fun k hk => ho2 k (by omega), rfl⟩
set_option maxRecDepth 100000 in
set_option maxHeartbeats 4000000 in
theorem ct_WM_determine (l : Launch) (D : va_G) (dA : Nat → ClassId) (ad : Nat → Nat) (mm : Nat → gm_V) (r : Nat → va_E) {σ : sg} (hc : cs dA ad mm r σ) (hσ : sg_ok σ) (a c0 : Int32) : gx_Ct l D dA yy_WM_determine cc_WM_determine 4 (some .int) 4 0 0 [.ref (ad 0), .int a, .int c0] (gx_w ad (gm_h dA ad mm r)) (fun v w => ∃ mm2 r2, w = gx_w ad (gm_h dA ad mm2 r2) ∧ cs dA ad mm2 r2 (o_determine σ a c0).2 ∧ (∀ k, 43 ≤ k → r2 k = r k) ∧ v = some (.int (o_determine σ a c0).1)) := by
  refine gx_of (by decide) (Nat.le_of_ble_eq_true rfl) (fun K C _ _ => ?_)
  obtain ⟨π, f, hπ, hc0, hc1, hf, hM, hR⟩ := cs_get hc
  have hπ4 := hπ.1
  have hπ45 := hπ.1 4 (by decide)
  refine gx_iload_n C 1 dd_WM_determine_0 (kk := ?_)
  refine gx_callS C (ct_WM_isSlot (gx_l K) D dA _ a) me_WM_isSlot ml_WM_76 ms_WM_isSlot dd_WM_determine_1 (kk := fun v w hq => ?_)
  obtain ⟨rfl, rfl⟩ := hq
  refine gx_topi _ ix_b ?_
  rcases hi : ix 4 a with _ | i
  · refine gx_if_eq C 14 dd_WM_determine_4 (fun h4 => ?_) (fun h4 => absurd rfl h4)
    refine gx_iconst (v := -1) C dd_WM_determine_14 (kk := ?_)
    refine gx_iret C dd_WM_determine_15 ?_
    have hsp : o_determine σ a c0 = (-1, σ) := by
      unfold o_determine
      simp only [hi]
    rw [hsp]
    exact ⟨mm, r, rfl, hc, fun _ _ => rfl, rfl⟩
  · obtain ⟨hi4, rfl⟩ := ix_of (by decide) hi
    refine gx_if_eq C 14 dd_WM_determine_4 (fun h4 => absurd (show true = false from fb_0.mp h4) (by decide)) (fun h4 => ?_)
    refine gx_iload_n C 2 dd_WM_determine_7 (kk := ?_)
    refine gx_callS C (ct_WM_isSlot (gx_l K) D dA _ c0) me_WM_isSlot ml_WM_76 ms_WM_isSlot dd_WM_determine_8 (kk := fun v w hq => ?_)
    obtain ⟨rfl, rfl⟩ := hq
    refine gx_topi _ ix_b ?_
    rcases hz : ix 4 c0 with _ | z
    · refine gx_if_ne C 16 dd_WM_determine_11 (fun h11 => absurd rfl h11) (fun h11 => ?_)
      refine gx_iconst (v := -1) C dd_WM_determine_14 (kk := ?_)
      refine gx_iret C dd_WM_determine_15 ?_
      have hsp : o_determine σ (nI i) c0 = (-1, σ) := by
        unfold o_determine
        simp only [hi, hz]
      rw [hsp]
      exact ⟨mm, r, rfl, hc, fun _ _ => rfl, rfl⟩
    · obtain ⟨hz4, rfl⟩ := ix_of (by decide) hz
      refine gx_if_ne C 16 dd_WM_determine_11 (fun h11 => ?_) (fun h11 => absurd (show true = false from fb_0.mp h11) (by decide))
      refine gx_aload_n C 0 dd_WM_determine_16 (kk := ?_)
      refine gx_get C fd_WM_11 (gm_r hc0) dd_WM_determine_17 (kk := ?_)
      refine gx_iload_n C 1 dd_WM_determine_20 (kk := ?_)
      refine gz_slot C hc1 hf dd_WM_determine_21 hi4 (kk := ?_)
      refine gx_callV C (ct_Ma_copiesLabels (gx_l K) D dA ad mm r (i := π i) (hπ.1 i (by omega)) (hM i hi4) (hσ.1 i hi4).1.2.1 (fun x hx => ((hσ.1 i hi4).1.2.2.1 x hx).1) (hσ.1 i hi4).2.2.1) me_Ma_copiesLabels ml_WM_126 mn_Ma_copiesLabels _ (gx_w_at (by have := hπ.1 i (by omega); omega) (gm_at (j := 0) (hπ.1 i (by omega)) (by decide))) rfl dd_WM_determine_22 (kk := fun v w hq => ?_)
      obtain ⟨rfl, rfl⟩ := hq
      rcases hcl : am_cl (am_ar (σ.1 i)) with _ | _
      · refine gx_if_eq C 40 dd_WM_determine_25 (fun h25 => ?_) (fun h25 => absurd rfl h25)
        refine gx_bipush (v := -3) C dd_WM_determine_40 (kk := ?_)
        refine gx_iret C dd_WM_determine_42 ?_
        have hsp : o_determine σ (nI i) (nI z) = (-3, σ) := by
          unfold o_determine
          simp only [hi, hz]
          rw [if_neg (fun e => by rw [am_fitd, hcl] at e; exact absurd e.1 (by decide))]
        rw [hsp]
        exact ⟨mm, r, rfl, hc, fun _ _ => rfl, rfl⟩
      · refine gx_if_eq C 40 dd_WM_determine_25 (fun h25 => absurd (show true = false from fb_0.mp h25) (by decide)) (fun h25 => ?_)
        refine gx_aload_n C 0 dd_WM_determine_28 (kk := ?_)
        refine gx_get C fd_WM_11 (gm_r hc0) dd_WM_determine_29 (kk := ?_)
        refine gx_iload_n C 1 dd_WM_determine_32 (kk := ?_)
        refine gz_slot C hc1 hf dd_WM_determine_33 hi4 (kk := ?_)
        refine gx_callV C (ct_Ma_hasCycle (gx_l K) D dA ad mm r (i := π i) (hπ.1 i (by omega)) (hM i hi4) (hσ.1 i hi4).1.1 (hσ.1 i hi4).1.2.1 (fun x hx => ((hσ.1 i hi4).1.2.2.1 x hx).1) (hσ.1 i hi4).2.2.1) me_Ma_hasCycle ml_WM_130 mn_Ma_hasCycle _ (gx_w_at (by have := hπ.1 i (by omega); omega) (gm_at (j := 0) (hπ.1 i (by omega)) (by decide))) rfl dd_WM_determine_34 (kk := fun v w hq => ?_)
        obtain ⟨rfl, cy, rfl, hcy⟩ := hq
        rcases cy with _ | _
        · have hfit : am_fitd (σ.1 i) := ⟨hcl, fun e => absurd (hcy.mpr e) (by decide)⟩
          refine gx_if_eq C 43 dd_WM_determine_37 (fun h37 => ?_) (fun h37 => absurd rfl h37)
          refine gx_aload_n C 0 dd_WM_determine_43 (kk := ?_)
          obtain ⟨x1, x2, fr, fn, hc26, hc27, hc28⟩ := hR.2.2.1
          refine gx_get C fd_WM_37 (gm_r hc0) dd_WM_determine_44 (kk := ?_)
          refine gx_aload_n C 0 dd_WM_determine_47 (kk := ?_)
          refine gx_get C fd_WM_11 (gm_r hc0) dd_WM_determine_48 (kk := ?_)
          refine gx_iload_n C 1 dd_WM_determine_51 (kk := ?_)
          refine gz_slot C hc1 hf dd_WM_determine_52 hi4 (kk := ?_)
          refine gx_aload_n C 0 dd_WM_determine_53 (kk := ?_)
          refine gx_get C fd_WM_16 (gm_r hc0) dd_WM_determine_54 (kk := ?_)
          refine gx_callV C (ct_De_build (gx_l K) D dA ad mm r (ia := π i) (im := π 4) hπ45 hc26 hc27 hc28 (a := σ.1 i) (hπ.1 i (by omega)) (fun e => absurd (hπ.2 i 4 (by omega) (by decide) e) (by omega)) (hM i hi4) (hσ.1 i hi4).1) me_De_build ml_WM_133 mn_De_build _ (gx_w_at (by decide) (gm_r hc26)) rfl dd_WM_determine_57 (kk := fun v w hq => ?_)
          obtain ⟨M, r2, rfl, ⟨fr2, fn2, h26, h27, h28⟩, ho2, hq⟩ := hq
          have h02 : r2 0 = wm_c ad (π 4) := (ho2 0 (by decide) (by decide) (by decide)).trans hc0
          have h12 : r2 1 = wm_f dA f := (ho2 1 (by decide) (by decide) (by decide)).trans hc1
          have hR2 : cs_R dA ad r2 σ := cs_R_c (fun k l1 l2 l3 => ho2 k (by omega) (by omega) (by omega)) hR ⟨_, _, fr2, fn2, h26, h27, h28⟩
          rcases hmk : de_mk (σ.1 i) with _ | b
          · rw [hmk] at hq
            have hq : v = some (.int (nI 0)) := hq
            subst hq
            refine gx_istore_n C _ dd_WM_determine_60 (kk := ?_)
            refine gx_aload_n C 1 dd_WM_determine_61 (kk := ?_)
            refine gx_iload_n C 0 dd_WM_determine_62 (kk := ?_)
            refine gx_iload_n C 3 dd_WM_determine_63 (kk := ?_)
            refine gx_callV C (ct_WM_take (gx_l K) D dA ad (va_up mm (π 4) M) r2 (π := π) (f := f) (β := false) (b := σ.1 0) (B := 0) (c := z) hπ h02 h12 hf (fun e => absurd e (by decide)) (by decide) hz4) me_WM_take ml_WM_116 mn_WM_take _ (gx_w_at (by decide) (gm_r h02)) rfl dd_WM_determine_64 (kk := fun v w hq => ?_)
            rcases hq with ⟨rfl, hβ, -⟩ | ⟨rfl, -, rfl⟩
            · exact absurd hβ (by decide)
            · refine gx_if_eq C 82 dd_WM_determine_67 (fun h67 => ?_) (fun h67 => absurd rfl h67)
              refine gx_bipush (v := -2) C dd_WM_determine_82 (kk := ?_)
              refine gx_iret C dd_WM_determine_84 ?_
              have hsp : o_determine σ (nI i) (nI z) = (-2, σ) := by
                unfold o_determine
                simp only [hi, hz, hmk, o_keep, if_pos hfit]
              rw [hsp]
              exact ⟨_, r2, rfl, cs_put hπ h02 h12 hf (cs_m4 hπ hM) hR2, fun k hk => ho2 k (by omega) (by omega) (by omega), rfl⟩
          · rw [hmk] at hq
            obtain ⟨rfl, hMb⟩ := hq
            refine gx_istore_n C _ dd_WM_determine_60 (kk := ?_)
            refine gx_aload_n C 1 dd_WM_determine_61 (kk := ?_)
            refine gx_iload_n C 0 dd_WM_determine_62 (kk := ?_)
            refine gx_iload_n C 3 dd_WM_determine_63 (kk := ?_)
            refine gx_callV C (ct_WM_take (gx_l K) D dA ad (va_up mm (π 4) M) r2 (π := π) (f := f) (β := true) (b := b) (B := 35184372088832) (c := z) hπ h02 h12 hf (fun _ => ⟨by rw [gm_us]; exact hMb.1, hMb.2.1⟩) (by decide) hz4) me_WM_take ml_WM_116 mn_WM_take _ (gx_w_at (by decide) (gm_r h02)) rfl dd_WM_determine_64 (kk := fun v w hq => ?_)
            rcases hq with ⟨rfl, -, hft, r3, f3, rfl, h03, h13, hs3, ho3⟩ | ⟨rfl, hft, rfl⟩
            · refine gx_if_eq C 82 dd_WM_determine_67 (fun h67 => absurd h67 (by decide)) (fun h67 => ?_)
              refine gx_aload_n C 1 dd_WM_determine_70 (kk := ?_)
              refine gx_get C fd_WM_11 (gm_r h03) dd_WM_determine_71 (kk := ?_)
              refine gx_iload_n C 3 dd_WM_determine_74 (kk := ?_)
              refine gz_slot C h13 hs3 dd_WM_determine_75 hz4 (kk := ?_)
              refine gm_get C fd_WM_120 ((cs_sw_pi hπ hz4).1 z (by omega)) dd_WM_determine_76 (kk := ?_)
              refine gx_topi (nI (am_n (b))) ?_ ?_
              · have hz5 := (cs_m5 (c := z) hπ hM hMb.1 z hz4).1
                rw [show (o_set σ z (b)).1 z = b from gm_us] at hz5
                exact hz5
              refine gx_goto C 84 dd_WM_determine_79 (kk := ?_)
              refine gx_iret C dd_WM_determine_84 ?_
              have hsp : o_determine σ (nI i) (nI z) = (nI (am_n (b)), o_set σ z (b)) := by
                unfold o_determine
                simp only [hi, hz, hmk, o_keep, if_pos hfit, hft, if_true]
              rw [hsp]
              exact ⟨_, r3, rfl, cs_put (cs_sw_pi hπ hz4) h03 h13 hs3 (cs_m5 hπ hM hMb.1) (cs_R_s (cs_R_0 (fun k l1 l2 => ho3 k (by omega) (by omega)) hR2)), fun k hk => (ho3 k (by omega) (by omega)).trans (ho2 k (by omega) (by omega) (by omega)), rfl⟩
            · replace hft : am_fit (b) = false := hft.resolve_left (by decide)
              refine gx_if_eq C 82 dd_WM_determine_67 (fun h67 => ?_) (fun h67 => absurd rfl h67)
              refine gx_bipush (v := -2) C dd_WM_determine_82 (kk := ?_)
              refine gx_iret C dd_WM_determine_84 ?_
              have hsp : o_determine σ (nI i) (nI z) = (-2, σ) := by
                unfold o_determine
                simp only [hi, hz, hmk, o_keep, if_pos hfit, hft, Bool.false_eq_true, if_false]
              rw [hsp]
              exact ⟨_, r2, rfl, cs_put hπ h02 h12 hf (cs_m4 hπ hM) hR2, fun k hk => ho2 k (by omega) (by omega) (by omega), rfl⟩
        · refine gx_if_eq C 43 dd_WM_determine_37 (fun h37 => absurd (show true = false from fb_0.mp h37) (by decide)) (fun h37 => ?_)
          refine gx_bipush (v := -3) C dd_WM_determine_40 (kk := ?_)
          refine gx_iret C dd_WM_determine_42 ?_
          have hsp : o_determine σ (nI i) (nI z) = (-3, σ) := by
            unfold o_determine
            simp only [hi, hz]
            rw [if_neg (fun e => e.2 (hcy.mp rfl))]
          rw [hsp]
          exact ⟨mm, r, rfl, hc, fun _ _ => rfl, rfl⟩
set_option maxRecDepth 100000 in
set_option maxHeartbeats 4000000 in
theorem ct_WM_push (l : Launch) (D : va_G) (dA : Nat → ClassId) (ad : Nat → Nat) (mm : Nat → gm_V) (r : Nat → va_E) {σ : sg} (hc : cs dA ad mm r σ) (hσ : sg_ok σ) (a c0 : Int32) : gx_Ct l D dA yy_WM_push cc_WM_push 3 (some .int) 3 0 0 [.ref (ad 0), .int a, .int c0] (gx_w ad (gm_h dA ad mm r)) (fun v w => ∃ mm2 r2, w = gx_w ad (gm_h dA ad mm2 r2) ∧ cs dA ad mm2 r2 (o_push σ a c0).2 ∧ (∀ k, 43 ≤ k → r2 k = r k) ∧ v = some (.int (o_push σ a c0).1)) := by
  refine gx_of (by decide) (Nat.le_of_ble_eq_true rfl) (fun K C _ _ => ?_)
  obtain ⟨π, f, hπ, hc0, hc1, hf, hM, hR⟩ := cs_get hc
  have hπ4 := hπ.1
  have hπ45 := hπ.1 4 (by decide)
  refine gx_iload_n C 1 dd_WM_push_0 (kk := ?_)
  refine gx_callS C (ct_WM_isSlot (gx_l K) D dA _ a) me_WM_isSlot ml_WM_76 ms_WM_isSlot dd_WM_push_1 (kk := fun v w hq => ?_)
  obtain ⟨rfl, rfl⟩ := hq
  refine gx_topi _ ix_b ?_
  rcases hi : ix 4 a with _ | i
  · refine gx_if_eq C 14 dd_WM_push_4 (fun h4 => ?_) (fun h4 => absurd rfl h4)
    refine gx_iconst (v := -1) C dd_WM_push_14 (kk := ?_)
    refine gx_iret C dd_WM_push_15 ?_
    have hsp : o_push σ a c0 = (-1, σ) := by
      unfold o_push
      simp only [hi]
    rw [hsp]
    exact ⟨mm, r, rfl, hc, fun _ _ => rfl, rfl⟩
  · obtain ⟨hi4, rfl⟩ := ix_of (by decide) hi
    refine gx_if_eq C 14 dd_WM_push_4 (fun h4 => absurd (show true = false from fb_0.mp h4) (by decide)) (fun h4 => ?_)
    refine gx_iload_n C 2 dd_WM_push_7 (kk := ?_)
    refine gx_callS C (ct_WM_isSlot (gx_l K) D dA _ c0) me_WM_isSlot ml_WM_76 ms_WM_isSlot dd_WM_push_8 (kk := fun v w hq => ?_)
    obtain ⟨rfl, rfl⟩ := hq
    refine gx_topi _ ix_b ?_
    rcases hz : ix 4 c0 with _ | z
    · refine gx_if_ne C 16 dd_WM_push_11 (fun h11 => absurd rfl h11) (fun h11 => ?_)
      refine gx_iconst (v := -1) C dd_WM_push_14 (kk := ?_)
      refine gx_iret C dd_WM_push_15 ?_
      have hsp : o_push σ (nI i) c0 = (-1, σ) := by
        unfold o_push
        simp only [hi, hz]
      rw [hsp]
      exact ⟨mm, r, rfl, hc, fun _ _ => rfl, rfl⟩
    · obtain ⟨hz4, rfl⟩ := ix_of (by decide) hz
      refine gx_if_ne C 16 dd_WM_push_11 (fun h11 => ?_) (fun h11 => absurd (show true = false from fb_0.mp h11) (by decide))
      refine gx_aload_n C 0 dd_WM_push_16 (kk := ?_)
      have hok := hσ.1 i hi4
      obtain ⟨f0, hc29, hc30⟩ := hR.2.2.2.1
      refine gx_get C fd_WM_44 (gm_r hc0) dd_WM_push_17 (kk := ?_)
      refine gx_aload_n C 0 dd_WM_push_20 (kk := ?_)
      refine gx_get C fd_WM_11 (gm_r hc0) dd_WM_push_21 (kk := ?_)
      refine gx_iload_n C 1 dd_WM_push_24 (kk := ?_)
      refine gz_slot C hc1 hf dd_WM_push_25 hi4 (kk := ?_)
      refine gx_callV C (ct_On_look (gx_l K) D dA ad mm r (ia := π i) (a := σ.1 i) (hπ.1 i (by omega)) (hM i hi4) hok.1 hok.2.2.1 hc29 hc30) me_On_look ml_WM_134 mn_On_look _ (gx_w_at (by decide) (gm_r hc29)) rfl dd_WM_push_26 (kk := fun v w hq => ?_)
      obtain ⟨rfl, f2, v2, rfl, hin, hfx, hvb⟩ := hq
      have hv2 := ls_one hfx (on_of_fix hok)
      subst hv2
      obtain ⟨r1, hr1⟩ : ∃ r1, r1 = (va_up r 30 (.inl (dA 1, 16, .inr (.inl f2)))) := ⟨_, rfl⟩
      rw [← hr1]
      have ho1 : ∀ k, k ≠ 30 → r1 k = r k := fun k hk => by rw [hr1, gm_un hk]
      have h29 : r1 29 = .inr (5, [.ref (ad 30)]) := (ho1 29 (by decide)).trans hc29
      have h30 : r1 30 = .inl (dA 1, 16, .inr (.inl f2)) := by rw [hr1, gm_us]
      have h01 : r1 0 = wm_c ad (π 4) := (ho1 0 (by decide)).trans hc0
      have hc11 : r1 1 = wm_f dA f := (ho1 1 (by decide)).trans hc1
      have hR1 : cs_R dA ad r1 σ := cs_R_d (fun k l1 l2 l3 => ho1 k (by omega)) hR ⟨f2, h29, h30⟩
      refine gx_aload_n C 0 dd_WM_push_29 (kk := ?_)
      refine gx_aload_n C 0 dd_WM_push_30 (kk := ?_)
      refine gx_get C fd_WM_11 (gm_r h01) dd_WM_push_31 (kk := ?_)
      refine gx_iload_n C 1 dd_WM_push_34 (kk := ?_)
      refine gz_slot C hc11 hf dd_WM_push_35 hi4 (kk := ?_)
      refine gx_callV C (ct_WM_buildPushed (gx_l K) D dA ad mm r1 (im := π 4) (ia := π i) (a := σ.1 i) (nv := on_of (σ.1 i)) hπ45 (hπ.1 i (by omega)) (fun e => absurd (hπ.2 i 4 (by omega) (by decide) e) (by omega)) (hM i hi4) hok h01 h29 h30 hin hfx hvb) me_WM_buildPushed ml_WM_138 mn_WM_buildPushed _ (gx_w_at (by decide) (gm_r h01)) rfl dd_WM_push_36 (kk := fun v w hq => ?_)
      obtain ⟨rfl, M, rfl, hMb⟩ := hq
      obtain ⟨r2, hr2⟩ : ∃ r2, r2 = r1 := ⟨_, rfl⟩
      rw [← hr2] at h01 hc11 hR1 ho1 ⊢
      have h02 := h01
      have h12 := hc11
      have hR2 := hR1
      refine gx_aload_n C 0 dd_WM_push_39 (kk := ?_)
      refine gx_iconst (v := nI 1) C dd_WM_push_40 (kk := ?_)
      refine gx_iload_n C 2 dd_WM_push_41 (kk := ?_)
      refine gx_callV C (ct_WM_take (gx_l K) D dA ad (va_up mm (π 4) M) r2 (π := π) (f := f) (β := true) (b := pu_mk (σ.1 i) (on_of (σ.1 i))) (B := 35184372088832) (c := z) hπ h02 h12 hf (fun _ => ⟨by rw [gm_us]; exact hMb.1, hMb.2.1⟩) (by decide) hz4) me_WM_take ml_WM_116 mn_WM_take _ (gx_w_at (by decide) (gm_r h02)) rfl dd_WM_push_42 (kk := fun v w hq => ?_)
      rcases hq with ⟨rfl, -, hft, r3, f3, rfl, h03, h13, hs3, ho3⟩ | ⟨rfl, hft, rfl⟩
      · refine gx_if_eq C 60 dd_WM_push_45 (fun h45 => absurd h45 (by decide)) (fun h45 => ?_)
        refine gx_aload_n C 0 dd_WM_push_48 (kk := ?_)
        refine gx_get C fd_WM_11 (gm_r h03) dd_WM_push_49 (kk := ?_)
        refine gx_iload_n C 2 dd_WM_push_52 (kk := ?_)
        refine gz_slot C h13 hs3 dd_WM_push_53 hz4 (kk := ?_)
        refine gm_get C fd_WM_108 ((cs_sw_pi hπ hz4).1 z (by omega)) dd_WM_push_54 (kk := ?_)
        refine gx_topi (nI (am_c (pu_mk (σ.1 i) (on_of (σ.1 i))))) ?_ ?_
        · have hz5 := (cs_m5 (c := z) hπ hM hMb.1 z hz4).2.2.2.1
          rw [show (o_set σ z (pu_mk (σ.1 i) (on_of (σ.1 i)))).1 z = pu_mk (σ.1 i) (on_of (σ.1 i)) from gm_us] at hz5
          exact hz5
        refine gx_goto C 62 dd_WM_push_57 (kk := ?_)
        refine gx_iret C dd_WM_push_62 ?_
        have hsp : o_push σ (nI i) (nI z) = (nI (am_c (pu_mk (σ.1 i) (on_of (σ.1 i)))), o_set σ z (pu_mk (σ.1 i) (on_of (σ.1 i)))) := by
          unfold o_push
          simp only [hi, hz, o_keep, hft, if_true]
        rw [hsp]
        exact ⟨_, r3, rfl, cs_put (cs_sw_pi hπ hz4) h03 h13 hs3 (cs_m5 hπ hM hMb.1) (cs_R_s (cs_R_0 (fun k l1 l2 => ho3 k (by omega) (by omega)) hR2)), fun k hk => (ho3 k (by omega) (by omega)).trans (ho1 k (by omega)), rfl⟩
      · replace hft : am_fit (pu_mk (σ.1 i) (on_of (σ.1 i))) = false := hft.resolve_left (by decide)
        refine gx_if_eq C 60 dd_WM_push_45 (fun h45 => ?_) (fun h45 => absurd rfl h45)
        refine gx_bipush (v := -2) C dd_WM_push_60 (kk := ?_)
        refine gx_iret C dd_WM_push_62 ?_
        have hsp : o_push σ (nI i) (nI z) = (-2, σ) := by
          unfold o_push
          simp only [hi, hz, o_keep, hft, Bool.false_eq_true, if_false]
        rw [hsp]
        exact ⟨_, r2, rfl, cs_put hπ h02 h12 hf (cs_m4 hπ hM) hR2, fun k hk => ho1 k (by omega), rfl⟩
set_option maxRecDepth 100000 in
set_option maxHeartbeats 4000000 in
theorem ct_WM_trim (l : Launch) (D : va_G) (dA : Nat → ClassId) (ad : Nat → Nat) (mm : Nat → gm_V) (r : Nat → va_E) {σ : sg} (hc : cs dA ad mm r σ) (hσ : sg_ok σ) (a c0 : Int32) : gx_Ct l D dA yy_WM_trim cc_WM_trim 3 (some .int) 3 0 0 [.ref (ad 0), .int a, .int c0] (gx_w ad (gm_h dA ad mm r)) (fun v w => ∃ mm2 r2, w = gx_w ad (gm_h dA ad mm2 r2) ∧ cs dA ad mm2 r2 (o_trim σ a c0).2 ∧ (∀ k, 43 ≤ k → r2 k = r k) ∧ v = some (.int (o_trim σ a c0).1)) := by
  refine gx_of (by decide) (Nat.le_of_ble_eq_true rfl) (fun K C _ _ => ?_)
  obtain ⟨π, f, hπ, hc0, hc1, hf, hM, hR⟩ := cs_get hc
  have hπ4 := hπ.1
  have hπ45 := hπ.1 4 (by decide)
  refine gx_iload_n C 1 dd_WM_trim_0 (kk := ?_)
  refine gx_callS C (ct_WM_isSlot (gx_l K) D dA _ a) me_WM_isSlot ml_WM_76 ms_WM_isSlot dd_WM_trim_1 (kk := fun v w hq => ?_)
  obtain ⟨rfl, rfl⟩ := hq
  refine gx_topi _ ix_b ?_
  rcases hi : ix 4 a with _ | i
  · refine gx_if_eq C 14 dd_WM_trim_4 (fun h4 => ?_) (fun h4 => absurd rfl h4)
    refine gx_iconst (v := -1) C dd_WM_trim_14 (kk := ?_)
    refine gx_iret C dd_WM_trim_15 ?_
    have hsp : o_trim σ a c0 = (-1, σ) := by
      unfold o_trim
      simp only [hi]
    rw [hsp]
    exact ⟨mm, r, rfl, hc, fun _ _ => rfl, rfl⟩
  · obtain ⟨hi4, rfl⟩ := ix_of (by decide) hi
    refine gx_if_eq C 14 dd_WM_trim_4 (fun h4 => absurd (show true = false from fb_0.mp h4) (by decide)) (fun h4 => ?_)
    refine gx_iload_n C 2 dd_WM_trim_7 (kk := ?_)
    refine gx_callS C (ct_WM_isSlot (gx_l K) D dA _ c0) me_WM_isSlot ml_WM_76 ms_WM_isSlot dd_WM_trim_8 (kk := fun v w hq => ?_)
    obtain ⟨rfl, rfl⟩ := hq
    refine gx_topi _ ix_b ?_
    rcases hz : ix 4 c0 with _ | z
    · refine gx_if_ne C 16 dd_WM_trim_11 (fun h11 => absurd rfl h11) (fun h11 => ?_)
      refine gx_iconst (v := -1) C dd_WM_trim_14 (kk := ?_)
      refine gx_iret C dd_WM_trim_15 ?_
      have hsp : o_trim σ (nI i) c0 = (-1, σ) := by
        unfold o_trim
        simp only [hi, hz]
      rw [hsp]
      exact ⟨mm, r, rfl, hc, fun _ _ => rfl, rfl⟩
    · obtain ⟨hz4, rfl⟩ := ix_of (by decide) hz
      refine gx_if_ne C 16 dd_WM_trim_11 (fun h11 => ?_) (fun h11 => absurd (show true = false from fb_0.mp h11) (by decide))
      refine gx_aload_n C 0 dd_WM_trim_16 (kk := ?_)
      refine gx_aload_n C 0 dd_WM_trim_17 (kk := ?_)
      refine gx_get C fd_WM_11 (gm_r hc0) dd_WM_trim_18 (kk := ?_)
      refine gx_iload_n C 1 dd_WM_trim_21 (kk := ?_)
      refine gz_slot C hc1 hf dd_WM_trim_22 hi4 (kk := ?_)
      refine gx_callV C (ct_WM_buildTrimmed (gx_l K) D dA ad mm r (im := π 4) (ia := π i) (a := σ.1 i) hπ45 (hπ.1 i (by omega)) (fun e => absurd (hπ.2 i 4 (by omega) (by decide) e) (by omega)) (hM i hi4) (hσ.1 i hi4) hc0) me_WM_buildTrimmed ml_WM_141 mn_WM_buildTrimmed _ (gx_w_at (by decide) (gm_r hc0)) rfl dd_WM_trim_23 (kk := fun v w hq => ?_)
      obtain ⟨rfl, M, rfl, hMb⟩ := hq
      obtain ⟨r2, hr2⟩ : ∃ r2, r2 = r := ⟨_, rfl⟩
      have ho1 : ∀ k, r2 k = r k := fun k => by rw [hr2]
      rw [← hr2]
      have h02 : r2 0 = wm_c ad (π 4) := (ho1 0).trans hc0
      have h12 : r2 1 = wm_f dA f := (ho1 1).trans hc1
      have hR2 : cs_R dA ad r2 σ := cs_R_0 (fun k _ _ => ho1 k) hR
      refine gx_aload_n C 0 dd_WM_trim_26 (kk := ?_)
      refine gx_iconst (v := nI 1) C dd_WM_trim_27 (kk := ?_)
      refine gx_iload_n C 2 dd_WM_trim_28 (kk := ?_)
      refine gx_callV C (ct_WM_take (gx_l K) D dA ad (va_up mm (π 4) M) r2 (π := π) (f := f) (β := true) (b := tr_mk (σ.1 i) (tr_P (σ.1 i))) (B := 35184372088832) (c := z) hπ h02 h12 hf (fun _ => ⟨by rw [gm_us]; exact hMb.1, hMb.2.1⟩) (by decide) hz4) me_WM_take ml_WM_116 mn_WM_take _ (gx_w_at (by decide) (gm_r h02)) rfl dd_WM_trim_29 (kk := fun v w hq => ?_)
      rcases hq with ⟨rfl, -, hft, r3, f3, rfl, h03, h13, hs3, ho3⟩ | ⟨rfl, hft, rfl⟩
      · refine gx_if_eq C 47 dd_WM_trim_32 (fun h32 => absurd h32 (by decide)) (fun h32 => ?_)
        refine gx_aload_n C 0 dd_WM_trim_35 (kk := ?_)
        refine gx_get C fd_WM_11 (gm_r h03) dd_WM_trim_36 (kk := ?_)
        refine gx_iload_n C 2 dd_WM_trim_39 (kk := ?_)
        refine gz_slot C h13 hs3 dd_WM_trim_40 hz4 (kk := ?_)
        refine gm_get C fd_WM_120 ((cs_sw_pi hπ hz4).1 z (by omega)) dd_WM_trim_41 (kk := ?_)
        refine gx_topi (nI (am_n (tr_mk (σ.1 i) (tr_P (σ.1 i))))) ?_ ?_
        · have hz5 := (cs_m5 (c := z) hπ hM hMb.1 z hz4).1
          rw [show (o_set σ z (tr_mk (σ.1 i) (tr_P (σ.1 i)))).1 z = tr_mk (σ.1 i) (tr_P (σ.1 i)) from gm_us] at hz5
          exact hz5
        refine gx_goto C 49 dd_WM_trim_44 (kk := ?_)
        refine gx_iret C dd_WM_trim_49 ?_
        have hsp : o_trim σ (nI i) (nI z) = (nI (am_n (tr_mk (σ.1 i) (tr_P (σ.1 i)))), o_set σ z (tr_mk (σ.1 i) (tr_P (σ.1 i)))) := by
          unfold o_trim
          simp only [hi, hz, o_keep, hft, if_true]
        rw [hsp]
        exact ⟨_, r3, rfl, cs_put (cs_sw_pi hπ hz4) h03 h13 hs3 (cs_m5 hπ hM hMb.1) (cs_R_s (cs_R_0 (fun k l1 l2 => ho3 k (by omega) (by omega)) hR2)), fun k hk => (ho3 k (by omega) (by omega)).trans (rfl), rfl⟩
      · replace hft : am_fit (tr_mk (σ.1 i) (tr_P (σ.1 i))) = false := hft.resolve_left (by decide)
        refine gx_if_eq C 47 dd_WM_trim_32 (fun h32 => ?_) (fun h32 => absurd rfl h32)
        refine gx_bipush (v := -2) C dd_WM_trim_47 (kk := ?_)
        refine gx_iret C dd_WM_trim_49 ?_
        have hsp : o_trim σ (nI i) (nI z) = (-2, σ) := by
          unfold o_trim
          simp only [hi, hz, o_keep, hft, Bool.false_eq_true, if_false]
        rw [hsp]
        exact ⟨_, r2, rfl, cs_put hπ h02 h12 hf (cs_m4 hπ hM) hR2, fun k hk => rfl, rfl⟩
set_option maxRecDepth 100000 in
set_option maxHeartbeats 4000000 in
theorem ct_WM_parse (l : Launch) (D : va_G) (dA : Nat → ClassId) (ad : Nat → Nat) (mm : Nat → gm_V) (r : Nat → va_E) {σ : sg} (hc : cs dA ad mm r σ) (hσ : sg_ok σ) (s : Int32) : gx_Ct l D dA yy_WM_parse cc_WM_parse 3 (some .int) 6 0 0 [.ref (ad 0), .int s] (gx_w ad (gm_h dA ad mm r)) (fun v w => ∃ mm2 r2, w = gx_w ad (gm_h dA ad mm2 r2) ∧ cs dA ad mm2 r2 (o_parse σ s).2 ∧ (∀ k, 43 ≤ k → r2 k = r k) ∧ v = some (.int (o_parse σ s).1)) := by
  refine gx_of (by decide) (Nat.le_of_ble_eq_true rfl) (fun K C _ _ => ?_)
  obtain ⟨π, f, hπ, hc0, hc1, hf, hM, hR⟩ := cs_get hc
  have hπ4 := hπ.1
  have hπ45 := hπ.1 4 (by decide)
  refine gx_iload_n C 1 dd_WM_parse_0 (kk := ?_)
  refine gx_callS C (ct_WM_isSlot (gx_l K) D dA _ s) me_WM_isSlot ml_WM_76 ms_WM_isSlot dd_WM_parse_1 (kk := fun v w hq => ?_)
  obtain ⟨rfl, rfl⟩ := hq
  refine gx_topi _ ix_b ?_
  rcases hz : ix 4 s with _ | z
  · refine gx_if_ne C 9 dd_WM_parse_4 (fun h4 => absurd rfl h4) (fun h4 => ?_)
    refine gx_iconst (v := -1) C dd_WM_parse_7 (kk := ?_)
    refine gx_iret C dd_WM_parse_8 ?_
    have hsp : o_parse σ s = (-1, σ) := by
      unfold o_parse
      simp only [hz]
    rw [hsp]
    exact ⟨mm, r, rfl, hc, fun _ _ => rfl, rfl⟩
  · obtain ⟨hz4, rfl⟩ := ix_of (by decide) hz
    refine gx_if_ne C 9 dd_WM_parse_4 (fun h4 => ?_) (fun h4 => absurd (show true = false from fb_0.mp h4) (by decide))
    refine gx_aload_n C 0 dd_WM_parse_9 (kk := ?_)
    have hX := hR.2.2.2.2.2.2.2
    obtain ⟨t0, m0, x0, y0, hc42⟩ := hR.2.2.2.2.2.1
    refine gx_get C fd_WM_72 (gm_r hc0) dd_WM_parse_10 (kk := ?_)
    refine gx_aload_n C 0 dd_WM_parse_13 (kk := ?_)
    refine gx_get C fd_WM_65 (gm_r hc0) dd_WM_parse_14 (kk := ?_)
    refine gx_aload_n C 0 dd_WM_parse_17 (kk := ?_)
    refine gx_get C fd_WM_16 (gm_r hc0) dd_WM_parse_18 (kk := ?_)
    refine gx_callV C (ct_Pa_build (gx_l K) D dA ad mm r hX (im := π 4) hπ45 hc42) me_Pa_build ml_WM_192 mn_Pa_build _ (gx_w_at (by decide) (gm_r hc42)) rfl dd_WM_parse_21 (kk := fun v w hq => ?_)
    obtain ⟨M, r2, rfl, ho2, ⟨x2, y2, h42⟩, hq⟩ := hq
    have h02 : r2 0 = wm_c ad (π 4) := (ho2 0 (by decide)).trans hc0
    have h12 : r2 1 = wm_f dA f := (ho2 1 (by decide)).trans hc1
    have hR2 : cs_R dA ad r2 σ := cs_R_f (fun k l1 l2 l3 => ho2 k (by omega)) hR ⟨_, _, x2, y2, h42⟩
    rcases hpr : pr_all σ.2.2 with fl | b
    · rw [hpr] at hq
      obtain ⟨rfl, hfl⟩ := hq
      refine gx_istore_n C _ dd_WM_parse_24 (kk := ?_)
      refine gx_iload_n C 0 dd_WM_parse_25 (kk := ?_)
      refine gx_if_eq C 31 dd_WM_parse_26 (fun h26 => absurd h26 hfl) (fun h26 => ?_)
      refine gx_iload_n C 0 dd_WM_parse_29 (kk := ?_)
      refine gx_iret C dd_WM_parse_30 ?_
      have hsp : o_parse σ (nI z) = (fl, σ) := by
        unfold o_parse
        simp only [hz, hpr]
      rw [hsp]
      exact ⟨_, r2, rfl, cs_put hπ h02 h12 hf (cs_m4 hπ hM) hR2, fun k hk => ho2 k (by omega), rfl⟩
    · rw [hpr] at hq
      obtain ⟨rfl, hMb⟩ := hq
      refine gx_istore_n C _ dd_WM_parse_24 (kk := ?_)
      refine gx_iload_n C 0 dd_WM_parse_25 (kk := ?_)
      refine gx_if_eq C 31 dd_WM_parse_26 (fun h26 => ?_) (fun h26 => absurd rfl h26)
      refine gx_aload_n C 1 dd_WM_parse_31 (kk := ?_)
      refine gx_iconst (v := nI 1) C dd_WM_parse_32 (kk := ?_)
      refine gx_iload_n C 2 dd_WM_parse_33 (kk := ?_)
      refine gx_callV C (ct_WM_take (gx_l K) D dA ad (va_up mm (π 4) M) r2 (π := π) (f := f) (β := true) (b := b) (B := 35184372088832) (c := z) hπ h02 h12 hf (fun _ => ⟨by rw [gm_us]; exact hMb.1, hMb.2.1⟩) (by decide) hz4) me_WM_take ml_WM_116 mn_WM_take _ (gx_w_at (by decide) (gm_r h02)) rfl dd_WM_parse_34 (kk := fun v w hq => ?_)
      rcases hq with ⟨rfl, -, hft, r3, f3, rfl, h03, h13, hs3, ho3⟩ | ⟨rfl, hft, rfl⟩
      · refine gx_if_eq C 52 dd_WM_parse_37 (fun h37 => absurd h37 (by decide)) (fun h37 => ?_)
        refine gx_aload_n C 1 dd_WM_parse_40 (kk := ?_)
        refine gx_get C fd_WM_11 (gm_r h03) dd_WM_parse_41 (kk := ?_)
        refine gx_iload_n C 2 dd_WM_parse_44 (kk := ?_)
        refine gz_slot C h13 hs3 dd_WM_parse_45 hz4 (kk := ?_)
        refine gm_get C fd_WM_108 ((cs_sw_pi hπ hz4).1 z (by omega)) dd_WM_parse_46 (kk := ?_)
        refine gx_topi (nI (am_c (b))) ?_ ?_
        · have hz5 := (cs_m5 (c := z) hπ hM hMb.1 z hz4).2.2.2.1
          rw [show (o_set σ z (b)).1 z = b from gm_us] at hz5
          exact hz5
        refine gx_goto C 54 dd_WM_parse_49 (kk := ?_)
        refine gx_iret C dd_WM_parse_54 ?_
        have hsp : o_parse σ (nI z) = (nI (am_c (b)), o_set σ z (b)) := by
          unfold o_parse
          simp only [hz, o_keep, hpr, hft, if_true]
        rw [hsp]
        exact ⟨_, r3, rfl, cs_put (cs_sw_pi hπ hz4) h03 h13 hs3 (cs_m5 hπ hM hMb.1) (cs_R_s (cs_R_0 (fun k l1 l2 => ho3 k (by omega) (by omega)) hR2)), fun k hk => (ho3 k (by omega) (by omega)).trans (ho2 k (by omega)), rfl⟩
      · replace hft : am_fit (b) = false := hft.resolve_left (by decide)
        refine gx_if_eq C 52 dd_WM_parse_37 (fun h37 => ?_) (fun h37 => absurd rfl h37)
        refine gx_bipush (v := -2) C dd_WM_parse_52 (kk := ?_)
        refine gx_iret C dd_WM_parse_54 ?_
        have hsp : o_parse σ (nI z) = (-2, σ) := by
          unfold o_parse
          simp only [hz, o_keep, hpr, hft, Bool.false_eq_true, if_false]
        rw [hsp]
        exact ⟨_, r2, rfl, cs_put hπ h02 h12 hf (cs_m4 hπ hM) hR2, fun k hk => ho2 k (by omega), rfl⟩
