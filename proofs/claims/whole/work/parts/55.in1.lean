theorem dd_Ma_init_0 : decode cc_Ma_init 0 = .ok (.aload_n 0, 1) := by decide +kernel
theorem dd_Ma_init_1 : decode cc_Ma_init 1 = .ok (.invokespecial 3, 3) := by decide +kernel
theorem dd_Ma_init_4 : decode cc_Ma_init 4 = .ok (.aload_n 0, 1) := by decide +kernel
theorem dd_Ma_init_5 : decode cc_Ma_init 5 = .ok (.iconst (-1), 1) := by decide +kernel
theorem dd_Ma_init_6 : decode cc_Ma_init 6 = .ok (.putfield 9, 3) := by decide +kernel
theorem dd_Ma_init_9 : decode cc_Ma_init 9 = .ok (.aload_n 0, 1) := by decide +kernel
theorem dd_Ma_init_10 : decode cc_Ma_init 10 = .ok (.bipush 16, 2) := by decide +kernel
theorem dd_Ma_init_12 : decode cc_Ma_init 12 = .ok (.newarray .long, 2) := by decide +kernel
theorem dd_Ma_init_14 : decode cc_Ma_init 14 = .ok (.putfield 15, 3) := by decide +kernel
theorem dd_Ma_init_17 : decode cc_Ma_init 17 = .ok (.aload_n 0, 1) := by decide +kernel
theorem dd_Ma_init_18 : decode cc_Ma_init 18 = .ok (.getfield 15, 3) := by decide +kernel
theorem dd_Ma_init_21 : decode cc_Ma_init 21 = .ok (.ldc2_w 19, 3) := by decide +kernel
theorem dd_Ma_init_24 : decode cc_Ma_init 24 = .ok (.invokestatic 21, 3) := by decide +kernel
theorem dd_Ma_init_27 : decode cc_Ma_init 27 = .ok (.aload_n 0, 1) := by decide +kernel
theorem dd_Ma_init_28 : decode cc_Ma_init 28 = .ok (.bipush 64, 2) := by decide +kernel
theorem dd_Ma_init_30 : decode cc_Ma_init 30 = .ok (.newarray .int, 2) := by decide +kernel
theorem dd_Ma_init_32 : decode cc_Ma_init 32 = .ok (.putfield 27, 3) := by decide +kernel
theorem dd_Ma_init_35 : decode cc_Ma_init 35 = .ok (.aload_n 0, 1) := by decide +kernel
theorem dd_Ma_init_36 : decode cc_Ma_init 36 = .ok (.bipush 64, 2) := by decide +kernel
theorem dd_Ma_init_38 : decode cc_Ma_init 38 = .ok (.newarray .long, 2) := by decide +kernel
theorem dd_Ma_init_40 : decode cc_Ma_init 40 = .ok (.putfield 31, 3) := by decide +kernel
theorem dd_Ma_init_43 : decode cc_Ma_init 43 = .ok (.return_, 1) := by decide +kernel
theorem df_Ma : ∀ j, j < 7 → defaultValue (ty_Ma j) = vp_V [.int 0, .int 0, .long 0, .null, .int 0, .null, .null] j := by
  intro j hj
  match j, hj with
  | 0, _ => rfl
  | 1, _ => rfl
  | 2, _ => rfl
  | 3, _ => rfl
  | 4, _ => rfl
  | 5, _ => rfl
  | 6, _ => rfl
  | j + 7, hj => exact absurd hj (by omega)
theorem dd_Co_init_0 : decode cc_Co_init 0 = .ok (.aload_n 0, 1) := by decide +kernel
theorem dd_Co_init_1 : decode cc_Co_init 1 = .ok (.invokespecial 3, 3) := by decide +kernel
theorem dd_Co_init_4 : decode cc_Co_init 4 = .ok (.aload_n 0, 1) := by decide +kernel
theorem dd_Co_init_5 : decode cc_Co_init 5 = .ok (.bipush 16, 2) := by decide +kernel
theorem dd_Co_init_7 : decode cc_Co_init 7 = .ok (.newarray .int, 2) := by decide +kernel
theorem dd_Co_init_9 : decode cc_Co_init 9 = .ok (.putfield 9, 3) := by decide +kernel
theorem dd_Co_init_12 : decode cc_Co_init 12 = .ok (.return_, 1) := by decide +kernel
theorem df_Co : ∀ j, j < 4 → defaultValue (ty_Co j) = vp_V [.null, .null, .null, .null] j := by
  intro j hj
  match j, hj with
  | 0, _ => rfl
  | 1, _ => rfl
  | 2, _ => rfl
  | 3, _ => rfl
  | j + 4, hj => exact absurd hj (by omega)
theorem dd_Ba_init_0 : decode cc_Ba_init 0 = .ok (.aload_n 0, 1) := by decide +kernel
theorem dd_Ba_init_1 : decode cc_Ba_init 1 = .ok (.invokespecial 3, 3) := by decide +kernel
theorem dd_Ba_init_4 : decode cc_Ba_init 4 = .ok (.aload_n 0, 1) := by decide +kernel
theorem dd_Ba_init_5 : decode cc_Ba_init 5 = .ok (.bipush 16, 2) := by decide +kernel
theorem dd_Ba_init_7 : decode cc_Ba_init 7 = .ok (.newarray .long, 2) := by decide +kernel
theorem dd_Ba_init_9 : decode cc_Ba_init 9 = .ok (.putfield 9, 3) := by decide +kernel
theorem dd_Ba_init_12 : decode cc_Ba_init 12 = .ok (.return_, 1) := by decide +kernel
theorem df_Ba : ∀ j, j < 1 → defaultValue (ty_Ba j) = vp_V [.null] j := by
  intro j hj
  match j, hj with
  | 0, _ => rfl
  | j + 1, hj => exact absurd hj (by omega)
theorem dd_De_init_0 : decode cc_De_init 0 = .ok (.aload_n 0, 1) := by decide +kernel
theorem dd_De_init_1 : decode cc_De_init 1 = .ok (.invokespecial 3, 3) := by decide +kernel
theorem dd_De_init_4 : decode cc_De_init 4 = .ok (.aload_n 0, 1) := by decide +kernel
theorem dd_De_init_5 : decode cc_De_init 5 = .ok (.sipush 256, 3) := by decide +kernel
theorem dd_De_init_8 : decode cc_De_init 8 = .ok (.newarray .long, 2) := by decide +kernel
theorem dd_De_init_10 : decode cc_De_init 10 = .ok (.putfield 9, 3) := by decide +kernel
theorem dd_De_init_13 : decode cc_De_init 13 = .ok (.aload_n 0, 1) := by decide +kernel
theorem dd_De_init_14 : decode cc_De_init 14 = .ok (.bipush 16, 2) := by decide +kernel
theorem dd_De_init_16 : decode cc_De_init 16 = .ok (.newarray .long, 2) := by decide +kernel
theorem dd_De_init_18 : decode cc_De_init 18 = .ok (.putfield 15, 3) := by decide +kernel
theorem dd_De_init_21 : decode cc_De_init 21 = .ok (.return_, 1) := by decide +kernel
theorem df_De : ∀ j, j < 4 → defaultValue (ty_De j) = vp_V [.null, .null, .null, .null] j := by
  intro j hj
  match j, hj with
  | 0, _ => rfl
  | 1, _ => rfl
  | 2, _ => rfl
  | 3, _ => rfl
  | j + 4, hj => exact absurd hj (by omega)
theorem dd_On_init_0 : decode cc_On_init 0 = .ok (.aload_n 0, 1) := by decide +kernel
theorem dd_On_init_1 : decode cc_On_init 1 = .ok (.invokespecial 3, 3) := by decide +kernel
theorem dd_On_init_4 : decode cc_On_init 4 = .ok (.aload_n 0, 1) := by decide +kernel
theorem dd_On_init_5 : decode cc_On_init 5 = .ok (.bipush 16, 2) := by decide +kernel
theorem dd_On_init_7 : decode cc_On_init 7 = .ok (.newarray .long, 2) := by decide +kernel
theorem dd_On_init_9 : decode cc_On_init 9 = .ok (.putfield 9, 3) := by decide +kernel
theorem dd_On_init_12 : decode cc_On_init 12 = .ok (.return_, 1) := by decide +kernel
theorem df_On : ∀ j, j < 1 → defaultValue (ty_On j) = vp_V [.null] j := by
  intro j hj
  match j, hj with
  | 0, _ => rfl
  | j + 1, hj => exact absurd hj (by omega)
theorem dd_We_init_0 : decode cc_We_init 0 = .ok (.aload_n 0, 1) := by decide +kernel
theorem dd_We_init_1 : decode cc_We_init 1 = .ok (.invokespecial 3, 3) := by decide +kernel
theorem dd_We_init_4 : decode cc_We_init 4 = .ok (.aload_n 0, 1) := by decide +kernel
theorem dd_We_init_5 : decode cc_We_init 5 = .ok (.new 9, 3) := by decide +kernel
theorem dd_We_init_8 : decode cc_We_init 8 = .ok (.dup, 1) := by decide +kernel
theorem dd_We_init_9 : decode cc_We_init 9 = .ok (.invokespecial 11, 3) := by decide +kernel
theorem dd_We_init_12 : decode cc_We_init 12 = .ok (.putfield 12, 3) := by decide +kernel
theorem dd_We_init_15 : decode cc_We_init 15 = .ok (.aload_n 0, 1) := by decide +kernel
theorem dd_We_init_16 : decode cc_We_init 16 = .ok (.new 9, 3) := by decide +kernel
theorem dd_We_init_19 : decode cc_We_init 19 = .ok (.dup, 1) := by decide +kernel
theorem dd_We_init_20 : decode cc_We_init 20 = .ok (.invokespecial 11, 3) := by decide +kernel
theorem dd_We_init_23 : decode cc_We_init 23 = .ok (.putfield 18, 3) := by decide +kernel
theorem dd_We_init_26 : decode cc_We_init 26 = .ok (.aload_n 0, 1) := by decide +kernel
theorem dd_We_init_27 : decode cc_We_init 27 = .ok (.sipush 1296, 3) := by decide +kernel
theorem dd_We_init_30 : decode cc_We_init 30 = .ok (.newarray .long, 2) := by decide +kernel
theorem dd_We_init_32 : decode cc_We_init 32 = .ok (.putfield 21, 3) := by decide +kernel
theorem dd_We_init_35 : decode cc_We_init 35 = .ok (.return_, 1) := by decide +kernel
theorem df_We : ∀ j, j < 3 → defaultValue (ty_We j) = vp_V [.null, .null, .null] j := by
  intro j hj
  match j, hj with
  | 0, _ => rfl
  | 1, _ => rfl
  | 2, _ => rfl
  | j + 3, hj => exact absurd hj (by omega)
theorem dd_Ro_init_0 : decode cc_Ro_init 0 = .ok (.aload_n 0, 1) := by decide +kernel
theorem dd_Ro_init_1 : decode cc_Ro_init 1 = .ok (.invokespecial 3, 3) := by decide +kernel
theorem dd_Ro_init_4 : decode cc_Ro_init 4 = .ok (.aload_n 0, 1) := by decide +kernel
theorem dd_Ro_init_5 : decode cc_Ro_init 5 = .ok (.bipush 8, 2) := by decide +kernel
theorem dd_Ro_init_7 : decode cc_Ro_init 7 = .ok (.newarray .int, 2) := by decide +kernel
theorem dd_Ro_init_9 : decode cc_Ro_init 9 = .ok (.putfield 9, 3) := by decide +kernel
theorem dd_Ro_init_12 : decode cc_Ro_init 12 = .ok (.return_, 1) := by decide +kernel
theorem df_Ro : ∀ j, j < 2 → defaultValue (ty_Ro j) = vp_V [.int 0, .null] j := by
  intro j hj
  match j, hj with
  | 0, _ => rfl
  | 1, _ => rfl
  | j + 2, hj => exact absurd hj (by omega)
theorem dd_BP_init_0 : decode cc_BP_init 0 = .ok (.aload_n 0, 1) := by decide +kernel
theorem dd_BP_init_1 : decode cc_BP_init 1 = .ok (.invokespecial 3, 3) := by decide +kernel
theorem dd_BP_init_4 : decode cc_BP_init 4 = .ok (.aload_n 0, 1) := by decide +kernel
theorem dd_BP_init_5 : decode cc_BP_init 5 = .ok (.bipush 16, 2) := by decide +kernel
theorem dd_BP_init_7 : decode cc_BP_init 7 = .ok (.newarray .int, 2) := by decide +kernel
theorem dd_BP_init_9 : decode cc_BP_init 9 = .ok (.putfield 9, 3) := by decide +kernel
theorem dd_BP_init_12 : decode cc_BP_init 12 = .ok (.aload_n 0, 1) := by decide +kernel
theorem dd_BP_init_13 : decode cc_BP_init 13 = .ok (.bipush 16, 2) := by decide +kernel
theorem dd_BP_init_15 : decode cc_BP_init 15 = .ok (.newarray .long, 2) := by decide +kernel
theorem dd_BP_init_17 : decode cc_BP_init 17 = .ok (.putfield 15, 3) := by decide +kernel
theorem dd_BP_init_20 : decode cc_BP_init 20 = .ok (.return_, 1) := by decide +kernel
theorem df_BP : ∀ j, j < 3 → defaultValue (ty_BP j) = vp_V [.int 0, .null, .null] j := by
  intro j hj
  match j, hj with
  | 0, _ => rfl
  | 1, _ => rfl
  | 2, _ => rfl
  | j + 3, hj => exact absurd hj (by omega)
theorem dd_Te_init_0 : decode cc_Te_init 0 = .ok (.aload_n 0, 1) := by decide +kernel
theorem dd_Te_init_1 : decode cc_Te_init 1 = .ok (.invokespecial 3, 3) := by decide +kernel
theorem dd_Te_init_4 : decode cc_Te_init 4 = .ok (.aload_n 0, 1) := by decide +kernel
theorem dd_Te_init_5 : decode cc_Te_init 5 = .ok (.sipush 1600, 3) := by decide +kernel
theorem dd_Te_init_8 : decode cc_Te_init 8 = .ok (.newarray .char, 2) := by decide +kernel
theorem dd_Te_init_10 : decode cc_Te_init 10 = .ok (.putfield 9, 3) := by decide +kernel
theorem dd_Te_init_13 : decode cc_Te_init 13 = .ok (.return_, 1) := by decide +kernel
theorem df_Te : ∀ j, j < 2 → defaultValue (ty_Te j) = vp_V [.int 0, .null] j := by
  intro j hj
  match j, hj with
  | 0, _ => rfl
  | 1, _ => rfl
  | j + 2, hj => exact absurd hj (by omega)
theorem dd_Pa_init_0 : decode cc_Pa_init 0 = .ok (.aload_n 0, 1) := by decide +kernel
theorem dd_Pa_init_1 : decode cc_Pa_init 1 = .ok (.invokespecial 3, 3) := by decide +kernel
theorem dd_Pa_init_4 : decode cc_Pa_init 4 = .ok (.return_, 1) := by decide +kernel
theorem df_Pa : ∀ j, j < 4 → defaultValue (ty_Pa j) = vp_V [.null, .null, .int 0, .long 0] j := by
  intro j hj
  match j, hj with
  | 0, _ => rfl
  | 1, _ => rfl
  | 2, _ => rfl
  | 3, _ => rfl
  | j + 4, hj => exact absurd hj (by omega)
theorem dd_WM_init_0 : decode cc_WM_init 0 = .ok (.aload_n 0, 1) := by decide +kernel
theorem dd_WM_init_1 : decode cc_WM_init 1 = .ok (.invokespecial 1, 3) := by decide +kernel
theorem dd_WM_init_4 : decode cc_WM_init 4 = .ok (.aload_n 0, 1) := by decide +kernel
theorem dd_WM_init_5 : decode cc_WM_init 5 = .ok (.iconst 4, 1) := by decide +kernel
theorem dd_WM_init_6 : decode cc_WM_init 6 = .ok (.anewarray 9, 3) := by decide +kernel
theorem dd_WM_init_9 : decode cc_WM_init 9 = .ok (.putfield 11, 3) := by decide +kernel
theorem dd_WM_init_12 : decode cc_WM_init 12 = .ok (.iconst 0, 1) := by decide +kernel
theorem dd_WM_init_13 : decode cc_WM_init 13 = .ok (.istore_n 1, 1) := by decide +kernel
theorem dd_WM_init_14 : decode cc_WM_init 14 = .ok (.iload_n 1, 1) := by decide +kernel
theorem dd_WM_init_15 : decode cc_WM_init 15 = .ok (.iconst 4, 1) := by decide +kernel
theorem dd_WM_init_16 : decode cc_WM_init 16 = .ok (.if_icmp .ge 22, 3) := by decide +kernel
theorem dd_WM_init_19 : decode cc_WM_init 19 = .ok (.aload_n 0, 1) := by decide +kernel
theorem dd_WM_init_20 : decode cc_WM_init 20 = .ok (.getfield 11, 3) := by decide +kernel
theorem dd_WM_init_23 : decode cc_WM_init 23 = .ok (.iload_n 1, 1) := by decide +kernel
theorem dd_WM_init_24 : decode cc_WM_init 24 = .ok (.new 9, 3) := by decide +kernel
theorem dd_WM_init_27 : decode cc_WM_init 27 = .ok (.dup, 1) := by decide +kernel
theorem dd_WM_init_28 : decode cc_WM_init 28 = .ok (.invokespecial 15, 3) := by decide +kernel
theorem dd_WM_init_31 : decode cc_WM_init 31 = .ok (.aastore, 1) := by decide +kernel
theorem dd_WM_init_32 : decode cc_WM_init 32 = .ok (.iinc 1 1, 3) := by decide +kernel
theorem dd_WM_init_35 : decode cc_WM_init 35 = .ok (.goto (-21), 3) := by decide +kernel
theorem dd_WM_init_38 : decode cc_WM_init 38 = .ok (.aload_n 0, 1) := by decide +kernel
theorem dd_WM_init_39 : decode cc_WM_init 39 = .ok (.new 9, 3) := by decide +kernel
theorem dd_WM_init_42 : decode cc_WM_init 42 = .ok (.dup, 1) := by decide +kernel
theorem dd_WM_init_43 : decode cc_WM_init 43 = .ok (.invokespecial 15, 3) := by decide +kernel
theorem dd_WM_init_46 : decode cc_WM_init 46 = .ok (.putfield 16, 3) := by decide +kernel
theorem dd_WM_init_49 : decode cc_WM_init 49 = .ok (.aload_n 0, 1) := by decide +kernel
theorem dd_WM_init_50 : decode cc_WM_init 50 = .ok (.new 20, 3) := by decide +kernel
theorem dd_WM_init_53 : decode cc_WM_init 53 = .ok (.dup, 1) := by decide +kernel
theorem dd_WM_init_54 : decode cc_WM_init 54 = .ok (.invokespecial 22, 3) := by decide +kernel
theorem dd_WM_init_57 : decode cc_WM_init 57 = .ok (.putfield 23, 3) := by decide +kernel
theorem dd_WM_init_60 : decode cc_WM_init 60 = .ok (.aload_n 0, 1) := by decide +kernel
theorem dd_WM_init_61 : decode cc_WM_init 61 = .ok (.new 27, 3) := by decide +kernel
theorem dd_WM_init_64 : decode cc_WM_init 64 = .ok (.dup, 1) := by decide +kernel
theorem dd_WM_init_65 : decode cc_WM_init 65 = .ok (.invokespecial 29, 3) := by decide +kernel
theorem dd_WM_init_68 : decode cc_WM_init 68 = .ok (.putfield 30, 3) := by decide +kernel
theorem dd_WM_init_71 : decode cc_WM_init 71 = .ok (.aload_n 0, 1) := by decide +kernel
theorem dd_WM_init_72 : decode cc_WM_init 72 = .ok (.new 34, 3) := by decide +kernel
theorem dd_WM_init_75 : decode cc_WM_init 75 = .ok (.dup, 1) := by decide +kernel
theorem dd_WM_init_76 : decode cc_WM_init 76 = .ok (.invokespecial 36, 3) := by decide +kernel
theorem dd_WM_init_79 : decode cc_WM_init 79 = .ok (.putfield 37, 3) := by decide +kernel
theorem dd_WM_init_82 : decode cc_WM_init 82 = .ok (.aload_n 0, 1) := by decide +kernel
theorem dd_WM_init_83 : decode cc_WM_init 83 = .ok (.new 41, 3) := by decide +kernel
theorem dd_WM_init_86 : decode cc_WM_init 86 = .ok (.dup, 1) := by decide +kernel
theorem dd_WM_init_87 : decode cc_WM_init 87 = .ok (.invokespecial 43, 3) := by decide +kernel
theorem dd_WM_init_90 : decode cc_WM_init 90 = .ok (.putfield 44, 3) := by decide +kernel
theorem dd_WM_init_93 : decode cc_WM_init 93 = .ok (.aload_n 0, 1) := by decide +kernel
theorem dd_WM_init_94 : decode cc_WM_init 94 = .ok (.new 48, 3) := by decide +kernel
theorem dd_WM_init_97 : decode cc_WM_init 97 = .ok (.dup, 1) := by decide +kernel
theorem dd_WM_init_98 : decode cc_WM_init 98 = .ok (.invokespecial 50, 3) := by decide +kernel
theorem dd_WM_init_101 : decode cc_WM_init 101 = .ok (.putfield 51, 3) := by decide +kernel
theorem dd_WM_init_104 : decode cc_WM_init 104 = .ok (.aload_n 0, 1) := by decide +kernel
theorem dd_WM_init_105 : decode cc_WM_init 105 = .ok (.new 55, 3) := by decide +kernel
theorem dd_WM_init_108 : decode cc_WM_init 108 = .ok (.dup, 1) := by decide +kernel
theorem dd_WM_init_109 : decode cc_WM_init 109 = .ok (.invokespecial 57, 3) := by decide +kernel
theorem dd_WM_init_112 : decode cc_WM_init 112 = .ok (.putfield 58, 3) := by decide +kernel
theorem dd_WM_init_115 : decode cc_WM_init 115 = .ok (.aload_n 0, 1) := by decide +kernel
theorem dd_WM_init_116 : decode cc_WM_init 116 = .ok (.new 62, 3) := by decide +kernel
theorem dd_WM_init_119 : decode cc_WM_init 119 = .ok (.dup, 1) := by decide +kernel
theorem dd_WM_init_120 : decode cc_WM_init 120 = .ok (.invokespecial 64, 3) := by decide +kernel
theorem dd_WM_init_123 : decode cc_WM_init 123 = .ok (.putfield 65, 3) := by decide +kernel
theorem dd_WM_init_126 : decode cc_WM_init 126 = .ok (.aload_n 0, 1) := by decide +kernel
theorem dd_WM_init_127 : decode cc_WM_init 127 = .ok (.new 69, 3) := by decide +kernel
theorem dd_WM_init_130 : decode cc_WM_init 130 = .ok (.dup, 1) := by decide +kernel
theorem dd_WM_init_131 : decode cc_WM_init 131 = .ok (.invokespecial 71, 3) := by decide +kernel
theorem dd_WM_init_134 : decode cc_WM_init 134 = .ok (.putfield 72, 3) := by decide +kernel
theorem dd_WM_init_137 : decode cc_WM_init 137 = .ok (.return_, 1) := by decide +kernel
theorem df_WM : ∀ j, j < 10 → defaultValue (ty_WM j) = vp_V [.null, .null, .null, .null, .null, .null, .null, .null, .null, .null] j := by
  intro j hj
  match j, hj with
  | 0, _ => rfl
  | 1, _ => rfl
  | 2, _ => rfl
  | 3, _ => rfl
  | 4, _ => rfl
  | 5, _ => rfl
  | 6, _ => rfl
  | 7, _ => rfl
  | 8, _ => rfl
  | 9, _ => rfl
  | j + 10, hj => exact absurd hj (by omega)
theorem dd_Mo_init_0 : decode cc_Mo_init 0 = .ok (.aload_n 0, 1) := by decide +kernel
theorem dd_Mo_init_1 : decode cc_Mo_init 1 = .ok (.invokespecial 1, 3) := by decide +kernel
theorem dd_Mo_init_4 : decode cc_Mo_init 4 = .ok (.aload_n 0, 1) := by decide +kernel
theorem dd_Mo_init_5 : decode cc_Mo_init 5 = .ok (.iconst 5, 1) := by decide +kernel
theorem dd_Mo_init_6 : decode cc_Mo_init 6 = .ok (.newarray .int, 2) := by decide +kernel
theorem dd_Mo_init_8 : decode cc_Mo_init 8 = .ok (.putfield 7, 3) := by decide +kernel
theorem dd_Mo_init_11 : decode cc_Mo_init 11 = .ok (.aload_n 0, 1) := by decide +kernel
theorem dd_Mo_init_12 : decode cc_Mo_init 12 = .ok (.iconst 5, 1) := by decide +kernel
theorem dd_Mo_init_13 : decode cc_Mo_init 13 = .ok (.newarray .int, 2) := by decide +kernel
theorem dd_Mo_init_15 : decode cc_Mo_init 15 = .ok (.putfield 13, 3) := by decide +kernel
theorem dd_Mo_init_18 : decode cc_Mo_init 18 = .ok (.aload_n 0, 1) := by decide +kernel
theorem dd_Mo_init_19 : decode cc_Mo_init 19 = .ok (.iconst 5, 1) := by decide +kernel
theorem dd_Mo_init_20 : decode cc_Mo_init 20 = .ok (.newarray .long, 2) := by decide +kernel
theorem dd_Mo_init_22 : decode cc_Mo_init 22 = .ok (.putfield 16, 3) := by decide +kernel
theorem dd_Mo_init_25 : decode cc_Mo_init 25 = .ok (.aload_n 0, 1) := by decide +kernel
theorem dd_Mo_init_26 : decode cc_Mo_init 26 = .ok (.bipush 80, 2) := by decide +kernel
theorem dd_Mo_init_28 : decode cc_Mo_init 28 = .ok (.newarray .long, 2) := by decide +kernel
theorem dd_Mo_init_30 : decode cc_Mo_init 30 = .ok (.putfield 20, 3) := by decide +kernel
theorem dd_Mo_init_33 : decode cc_Mo_init 33 = .ok (.aload_n 0, 1) := by decide +kernel
theorem dd_Mo_init_34 : decode cc_Mo_init 34 = .ok (.iconst 5, 1) := by decide +kernel
theorem dd_Mo_init_35 : decode cc_Mo_init 35 = .ok (.newarray .int, 2) := by decide +kernel
theorem dd_Mo_init_37 : decode cc_Mo_init 37 = .ok (.putfield 23, 3) := by decide +kernel
theorem dd_Mo_init_40 : decode cc_Mo_init 40 = .ok (.aload_n 0, 1) := by decide +kernel
theorem dd_Mo_init_41 : decode cc_Mo_init 41 = .ok (.sipush 325, 3) := by decide +kernel
theorem dd_Mo_init_44 : decode cc_Mo_init 44 = .ok (.newarray .int, 2) := by decide +kernel
theorem dd_Mo_init_46 : decode cc_Mo_init 46 = .ok (.putfield 26, 3) := by decide +kernel
theorem dd_Mo_init_49 : decode cc_Mo_init 49 = .ok (.aload_n 0, 1) := by decide +kernel
theorem dd_Mo_init_50 : decode cc_Mo_init 50 = .ok (.sipush 325, 3) := by decide +kernel
theorem dd_Mo_init_53 : decode cc_Mo_init 53 = .ok (.newarray .int, 2) := by decide +kernel
theorem dd_Mo_init_55 : decode cc_Mo_init 55 = .ok (.putfield 29, 3) := by decide +kernel
theorem dd_Mo_init_58 : decode cc_Mo_init 58 = .ok (.aload_n 0, 1) := by decide +kernel
theorem dd_Mo_init_59 : decode cc_Mo_init 59 = .ok (.sipush 325, 3) := by decide +kernel
theorem dd_Mo_init_62 : decode cc_Mo_init 62 = .ok (.newarray .int, 2) := by decide +kernel
theorem dd_Mo_init_64 : decode cc_Mo_init 64 = .ok (.putfield 32, 3) := by decide +kernel
theorem dd_Mo_init_67 : decode cc_Mo_init 67 = .ok (.aload_n 0, 1) := by decide +kernel
theorem dd_Mo_init_68 : decode cc_Mo_init 68 = .ok (.sipush 325, 3) := by decide +kernel
theorem dd_Mo_init_71 : decode cc_Mo_init 71 = .ok (.newarray .int, 2) := by decide +kernel
theorem dd_Mo_init_73 : decode cc_Mo_init 73 = .ok (.putfield 35, 3) := by decide +kernel
theorem dd_Mo_init_76 : decode cc_Mo_init 76 = .ok (.aload_n 0, 1) := by decide +kernel
theorem dd_Mo_init_77 : decode cc_Mo_init 77 = .ok (.sipush 325, 3) := by decide +kernel
theorem dd_Mo_init_80 : decode cc_Mo_init 80 = .ok (.newarray .long, 2) := by decide +kernel
theorem dd_Mo_init_82 : decode cc_Mo_init 82 = .ok (.putfield 38, 3) := by decide +kernel
theorem dd_Mo_init_85 : decode cc_Mo_init 85 = .ok (.aload_n 0, 1) := by decide +kernel
theorem dd_Mo_init_86 : decode cc_Mo_init 86 = .ok (.bipush 80, 2) := by decide +kernel
theorem dd_Mo_init_88 : decode cc_Mo_init 88 = .ok (.newarray .int, 2) := by decide +kernel
theorem dd_Mo_init_90 : decode cc_Mo_init 90 = .ok (.putfield 41, 3) := by decide +kernel
theorem dd_Mo_init_93 : decode cc_Mo_init 93 = .ok (.aload_n 0, 1) := by decide +kernel
theorem dd_Mo_init_94 : decode cc_Mo_init 94 = .ok (.bipush 16, 2) := by decide +kernel
theorem dd_Mo_init_96 : decode cc_Mo_init 96 = .ok (.newarray .long, 2) := by decide +kernel
theorem dd_Mo_init_98 : decode cc_Mo_init 98 = .ok (.putfield 44, 3) := by decide +kernel
theorem dd_Mo_init_101 : decode cc_Mo_init 101 = .ok (.aload_n 0, 1) := by decide +kernel
theorem dd_Mo_init_102 : decode cc_Mo_init 102 = .ok (.sipush 1600, 3) := by decide +kernel
theorem dd_Mo_init_105 : decode cc_Mo_init 105 = .ok (.newarray .int, 2) := by decide +kernel
theorem dd_Mo_init_107 : decode cc_Mo_init 107 = .ok (.putfield 47, 3) := by decide +kernel
theorem dd_Mo_init_110 : decode cc_Mo_init 110 = .ok (.aload_n 0, 1) := by decide +kernel
theorem dd_Mo_init_111 : decode cc_Mo_init 111 = .ok (.bipush 16, 2) := by decide +kernel
theorem dd_Mo_init_113 : decode cc_Mo_init 113 = .ok (.newarray .long, 2) := by decide +kernel
theorem dd_Mo_init_115 : decode cc_Mo_init 115 = .ok (.putfield 50, 3) := by decide +kernel
theorem dd_Mo_init_118 : decode cc_Mo_init 118 = .ok (.aload_n 0, 1) := by decide +kernel
theorem dd_Mo_init_119 : decode cc_Mo_init 119 = .ok (.bipush 16, 2) := by decide +kernel
theorem dd_Mo_init_121 : decode cc_Mo_init 121 = .ok (.newarray .int, 2) := by decide +kernel
theorem dd_Mo_init_123 : decode cc_Mo_init 123 = .ok (.putfield 53, 3) := by decide +kernel
theorem dd_Mo_init_126 : decode cc_Mo_init 126 = .ok (.aload_n 0, 1) := by decide +kernel
theorem dd_Mo_init_127 : decode cc_Mo_init 127 = .ok (.bipush 16, 2) := by decide +kernel
theorem dd_Mo_init_129 : decode cc_Mo_init 129 = .ok (.newarray .boolean, 2) := by decide +kernel
theorem dd_Mo_init_131 : decode cc_Mo_init 131 = .ok (.putfield 56, 3) := by decide +kernel
theorem dd_Mo_init_134 : decode cc_Mo_init 134 = .ok (.aload_n 0, 1) := by decide +kernel
theorem dd_Mo_init_135 : decode cc_Mo_init 135 = .ok (.sipush 1296, 3) := by decide +kernel
theorem dd_Mo_init_138 : decode cc_Mo_init 138 = .ok (.newarray .long, 2) := by decide +kernel
theorem dd_Mo_init_140 : decode cc_Mo_init 140 = .ok (.putfield 60, 3) := by decide +kernel
theorem dd_Mo_init_143 : decode cc_Mo_init 143 = .ok (.aload_n 0, 1) := by decide +kernel
theorem dd_Mo_init_144 : decode cc_Mo_init 144 = .ok (.bipush 8, 2) := by decide +kernel
theorem dd_Mo_init_146 : decode cc_Mo_init 146 = .ok (.newarray .int, 2) := by decide +kernel
theorem dd_Mo_init_148 : decode cc_Mo_init 148 = .ok (.putfield 63, 3) := by decide +kernel
theorem dd_Mo_init_151 : decode cc_Mo_init 151 = .ok (.aload_n 0, 1) := by decide +kernel
theorem dd_Mo_init_152 : decode cc_Mo_init 152 = .ok (.bipush 8, 2) := by decide +kernel
theorem dd_Mo_init_154 : decode cc_Mo_init 154 = .ok (.newarray .int, 2) := by decide +kernel
theorem dd_Mo_init_156 : decode cc_Mo_init 156 = .ok (.putfield 66, 3) := by decide +kernel
theorem dd_Mo_init_159 : decode cc_Mo_init 159 = .ok (.aload_n 0, 1) := by decide +kernel
theorem dd_Mo_init_160 : decode cc_Mo_init 160 = .ok (.bipush 17, 2) := by decide +kernel
theorem dd_Mo_init_162 : decode cc_Mo_init 162 = .ok (.newarray .int, 2) := by decide +kernel
theorem dd_Mo_init_164 : decode cc_Mo_init 164 = .ok (.putfield 69, 3) := by decide +kernel
theorem dd_Mo_init_167 : decode cc_Mo_init 167 = .ok (.aload_n 0, 1) := by decide +kernel
theorem dd_Mo_init_168 : decode cc_Mo_init 168 = .ok (.sipush 272, 3) := by decide +kernel
theorem dd_Mo_init_171 : decode cc_Mo_init 171 = .ok (.newarray .long, 2) := by decide +kernel
theorem dd_Mo_init_173 : decode cc_Mo_init 173 = .ok (.putfield 72, 3) := by decide +kernel
theorem dd_Mo_init_176 : decode cc_Mo_init 176 = .ok (.iconst 0, 1) := by decide +kernel
theorem dd_Mo_init_177 : decode cc_Mo_init 177 = .ok (.istore_n 1, 1) := by decide +kernel
theorem dd_Mo_init_178 : decode cc_Mo_init 178 = .ok (.iload_n 1, 1) := by decide +kernel
theorem dd_Mo_init_179 : decode cc_Mo_init 179 = .ok (.iconst 5, 1) := by decide +kernel
theorem dd_Mo_init_180 : decode cc_Mo_init 180 = .ok (.if_icmp .ge 15, 3) := by decide +kernel
theorem dd_Mo_init_183 : decode cc_Mo_init 183 = .ok (.aload_n 0, 1) := by decide +kernel
theorem dd_Mo_init_184 : decode cc_Mo_init 184 = .ok (.iload_n 1, 1) := by decide +kernel
theorem dd_Mo_init_185 : decode cc_Mo_init 185 = .ok (.iconst 0, 1) := by decide +kernel
theorem dd_Mo_init_186 : decode cc_Mo_init 186 = .ok (.invokevirtual 75, 3) := by decide +kernel
theorem dd_Mo_init_189 : decode cc_Mo_init 189 = .ok (.iinc 1 1, 3) := by decide +kernel
theorem dd_Mo_init_192 : decode cc_Mo_init 192 = .ok (.goto (-14), 3) := by decide +kernel
theorem dd_Mo_init_195 : decode cc_Mo_init 195 = .ok (.return_, 1) := by decide +kernel
theorem df_Mo : ∀ j, j < 28 → defaultValue (ty_Mo j) = vp_V [.null, .null, .null, .null, .null, .null, .null, .null, .null, .null, .int 0, .null, .null, .null, .int 0, .int 0, .int 0, .null, .null, .null, .null, .null, .null, .int 0, .int 0, .null, .null, .int 0] j := by
  intro j hj
  match j, hj with
  | 0, _ => rfl
  | 1, _ => rfl
  | 2, _ => rfl
  | 3, _ => rfl
  | 4, _ => rfl
  | 5, _ => rfl
  | 6, _ => rfl
  | 7, _ => rfl
  | 8, _ => rfl
  | 9, _ => rfl
  | 10, _ => rfl
  | 11, _ => rfl
  | 12, _ => rfl
  | 13, _ => rfl
  | 14, _ => rfl
  | 15, _ => rfl
  | 16, _ => rfl
  | 17, _ => rfl
  | 18, _ => rfl
  | 19, _ => rfl
  | 20, _ => rfl
  | 21, _ => rfl
  | 22, _ => rfl
  | 23, _ => rfl
  | 24, _ => rfl
  | 25, _ => rfl
  | 26, _ => rfl
  | 27, _ => rfl
  | j + 28, hj => exact absurd hj (by omega)
theorem gn_ss {ws : va_W} {q : Nat} {x : Nat × va_E} (h : q < ws.length) : (ws.set q x)[q]? = some x := by
  rw [List.getElem?_set, if_pos rfl, if_pos h]
theorem gn_set_self {ws : va_W} {q : Nat} {x : Nat × va_E} (h : ws[q]? = some x) : ws.set q x = ws := by
  obtain ⟨hq, rfl⟩ := List.getElem?_eq_some_iff.mp h
  exact List.set_getElem_self hq
set_option maxRecDepth 100000 in
set_option maxHeartbeats 4000000 in
theorem ct_JA_fillW (l : Launch) (D : va_G) (dA : Nat → ClassId) (ws : va_W) (q n : Nat) (f : Nat → Int64) (x : Int64) {a : Nat} (hn : n < 2 ^ 31) (he : ws[q]? = some (a, .inl (dA 1, n, .inr (.inl f)))) : gx_Ct l D dA yy_JA_fill cc_JA_fill 5 none 0 0 0 [.ref a, .long x] ws (fun v w => v = none ∧ w = ws.set q (a, .inl (dA 1, n, .inr (.inl (fun j => if j < n then x else f j))))) := by
  refine gx_of (by decide) (Nat.le_of_ble_eq_true rfl) (fun K C _ _ => ?_)
  have hql := (List.getElem?_eq_some_iff.mp he).1
  have loop : ∀ m j, j + m = n → gx_G K D 5 0 0 6 [(4, .int (nI n)), (3, .int (nI j)), (0, .ref a), (1, .long x)] [] (ws.set q (a, .inl (dA 1, n, .inr (.inl (fun t => if t < j then x else f t))))) (gx_Z K D dA 0 0 (fun v w => v = none ∧ w = ws.set q (a, .inl (dA 1, n, .inr (.inl (fun j => if j < n then x else f j)))))) := by
    intro m
    induction m with
    | zero =>
      intro j hj
      refine gx_iload_n C 1 dd_JA_fill_6 (kk := ?_)
      refine gx_iload C 0 dd_JA_fill_7 (kk := ?_)
      refine gx_icmp_ge C 22 dd_JA_fill_9 (fun h9 => ?_) (fun h9 => absurd (nI_le (a := n) (b := j) (by omega) (by omega)) h9)
      refine gx_vret C dd_JA_fill_22 ?_
      refine ⟨rfl, ?_⟩
      rw [show j = n by omega]
    | succ m ih =>
      intro j hj
      refine gx_iload_n C 1 dd_JA_fill_6 (kk := ?_)
      refine gx_iload C 0 dd_JA_fill_7 (kk := ?_)
      refine gx_icmp_ge C 22 dd_JA_fill_9 (fun h9 => absurd h9 (nI_ge (by omega) hn)) (fun h9 => ?_)
      refine gx_aload_n C 2 dd_JA_fill_12 (kk := ?_)
      refine gx_iload_n C 1 dd_JA_fill_13 (kk := ?_)
      refine gx_lload_n C 3 dd_JA_fill_14 (kk := ?_)
      refine gx_lastore0 C q (gn_ss hql) dd_JA_fill_15 (vp_in_nI (by omega) hn) ?_
      refine gx_iinc C 1 (nI (j + 1)) _ dd_JA_fill_16 (nI_1 j) (kk := ?_)
      refine gx_goto C 6 dd_JA_fill_19 (kk := ?_)
      refine gx_loc [1, 0, 2, 3] ?_
      refine gx_wld ?_ (ih (j + 1) (by omega))
      rw [List.set_set, nI_clamp (by omega), show vp_updL (fun t => if t < j then x else f t) j x = (fun t => if t < j + 1 then x else f t) from ?_]
      funext t
      simp only [vp_updL]
      by_cases h1 : t = j
      · simp [h1]
      · by_cases h2 : t < j
        · simp [h1, h2, show t < j + 1 by omega]
        · simp [h1, h2, show ¬ t < j + 1 by omega]
  refine gx_iconst (v := nI 0) C dd_JA_fill_0 (kk := ?_)
  refine gx_istore_n C _ dd_JA_fill_1 (kk := ?_)
  refine gx_aload_n C 1 dd_JA_fill_2 (kk := ?_)
  refine gx_alen0 C (t0 := 1) q he rfl dd_JA_fill_3 ?_
  refine gx_istore C _ dd_JA_fill_4 (kk := ?_)
  refine gx_wld ?_ (loop n 0 (by omega))
  simp only [Nat.not_lt_zero, if_false]
  rw [gn_set_self he]
set_option maxRecDepth 100000 in
set_option maxHeartbeats 4000000 in
theorem ct_Ma_init (l : Launch) (D : va_G) (dA : Nat → ClassId) (ws0 : va_W) (b : Nat) : gx_Ct l D dA yy_Ma_init cc_Ma_init 1 none 1 3 144 [.ref b] (ws0 ++ [(b, .inr (4, [.int 0, .int 0, .long 0, .null, .int 0, .null, .null]))]) (fun v w => v = none ∧ ∃ v0 v1 v2 : Nat, w = ws0 ++ [(b, .inr (4, [.int 0, .int (-1), .long 0, .ref v0, .int 0, .ref v1, .ref v2])), (v0, .inl (dA 1, 16, .inr (.inl (fun j => if j < 16 then -1 else 0)))), (v1, .inl (dA 0, 64, .inl (fun _ => 0))), (v2, .inl (dA 1, 64, .inr (.inl (fun _ => 0))))]) := by
  refine gx_of (by decide) (Nat.le_of_ble_eq_true rfl) (fun K C hc0 hs0 => ?_)
  refine gx_aload_n C 0 dd_Ma_init_0 (kk := ?_)
  refine gn_obj C oi_Ma dd_Ma_init_1 (by decide) (kk := ?_)
  refine gx_aload_n C 0 dd_Ma_init_4 (kk := ?_)
  refine gx_iconst (v := -1) C dd_Ma_init_5 (kk := ?_)
  refine gx_put0 C fw_Ma_9 ws0.length gn_a0 dd_Ma_init_6 rfl rfl (Nat.le_of_ble_eq_true rfl) ?_
  refine gx_wld (ws' := ws0 ++ [(b, .inr (4, [.int 0, .int (-1), .long 0, .null, .int 0, .null, .null]))]) (gn_s0) ?_
  refine gx_aload_n C 0 dd_Ma_init_9 (kk := ?_)
  refine gx_bipush (v := nI 16) C dd_Ma_init_10 (kk := ?_)
  refine gn_newa C (N' := 16) (a0 := (16, .inr (.inl (fun _ => 0)))) 1 rfl ac_l rfl (fun _ => rfl) (by decide) rfl (by decide) (by rw [hc0]; decide) (by rw [hs0]; decide) dd_Ma_init_12 (kk := fun q_12 => ?_)
  refine gx_wld (ws' := ws0 ++ [(b, .inr (4, [.int 0, .int (-1), .long 0, .null, .int 0, .null, .null])), (q_12, .inl (dA 1, 16, .inr (.inl (fun _ => 0))))]) (by simp) ?_
  refine gx_putF0 C ff_Ma_15 rfl ws0.length gn_a0 dd_Ma_init_14 rfl rfl (Nat.le_of_ble_eq_true rfl) ?_
  refine gx_wld (ws' := ws0 ++ [(b, .inr (4, [.int 0, .int (-1), .long 0, .ref q_12, .int 0, .null, .null])), (q_12, .inl (dA 1, 16, .inr (.inl (fun _ => 0))))]) (gn_s0) ?_
  refine gx_aload_n C 0 dd_Ma_init_17 (kk := ?_)
  refine gx_get0 C fd_Ma_15 ws0.length gn_a0 dd_Ma_init_18 rfl ?_
  refine gx_ldc2 C dd_Ma_init_21 kc_Ma_19 (kk := ?_)
  refine gx_callS C (ct_JA_fillW (gx_l K) D dA _ (ws0.length + 1) 16 (fun _ => 0) (-1) (by decide) gn_a1) me_JA_fill ml_Ma_21 ms_JA_fill dd_Ma_init_24 (hf := ⟨by rw [hc0]; decide, by rw [hs0]; decide⟩) (kk := fun v w hq => ?_)
  obtain ⟨rfl, rfl⟩ := hq
  refine gx_wld (ws' := ws0 ++ [(b, .inr (4, [.int 0, .int (-1), .long 0, .ref q_12, .int 0, .null, .null])), (q_12, .inl (dA 1, 16, .inr (.inl (fun j => if j < 16 then -1 else 0))))]) (gn_s1) ?_
  refine gx_aload_n C 0 dd_Ma_init_27 (kk := ?_)
  refine gx_bipush (v := nI 64) C dd_Ma_init_28 (kk := ?_)
  refine gn_newa C (N' := 64) (a0 := (64, .inl (fun _ => 0))) 0 rfl ac_i rfl (fun _ => rfl) (by decide) rfl (by decide) (by rw [hc0]; decide) (by rw [hs0]; decide) dd_Ma_init_30 (kk := fun q_30 => ?_)
  refine gx_wld (ws' := ws0 ++ [(b, .inr (4, [.int 0, .int (-1), .long 0, .ref q_12, .int 0, .null, .null])), (q_12, .inl (dA 1, 16, .inr (.inl (fun j => if j < 16 then -1 else 0)))), (q_30, .inl (dA 0, 64, .inl (fun _ => 0)))]) (by simp) ?_
  refine gx_putF0 C ff_Ma_27 rfl ws0.length gn_a0 dd_Ma_init_32 rfl rfl (Nat.le_of_ble_eq_true rfl) ?_
  refine gx_wld (ws' := ws0 ++ [(b, .inr (4, [.int 0, .int (-1), .long 0, .ref q_12, .int 0, .ref q_30, .null])), (q_12, .inl (dA 1, 16, .inr (.inl (fun j => if j < 16 then -1 else 0)))), (q_30, .inl (dA 0, 64, .inl (fun _ => 0)))]) (gn_s0) ?_
  refine gx_aload_n C 0 dd_Ma_init_35 (kk := ?_)
  refine gx_bipush (v := nI 64) C dd_Ma_init_36 (kk := ?_)
  refine gn_newa C (N' := 64) (a0 := (64, .inr (.inl (fun _ => 0)))) 1 rfl ac_l rfl (fun _ => rfl) (by decide) rfl (by decide) (by rw [hc0]; decide) (by rw [hs0]; decide) dd_Ma_init_38 (kk := fun q_38 => ?_)
  refine gx_wld (ws' := ws0 ++ [(b, .inr (4, [.int 0, .int (-1), .long 0, .ref q_12, .int 0, .ref q_30, .null])), (q_12, .inl (dA 1, 16, .inr (.inl (fun j => if j < 16 then -1 else 0)))), (q_30, .inl (dA 0, 64, .inl (fun _ => 0))), (q_38, .inl (dA 1, 64, .inr (.inl (fun _ => 0))))]) (by simp) ?_
  refine gx_putF0 C ff_Ma_31 rfl ws0.length gn_a0 dd_Ma_init_40 rfl rfl (Nat.le_of_ble_eq_true rfl) ?_
  refine gx_wld (ws' := ws0 ++ [(b, .inr (4, [.int 0, .int (-1), .long 0, .ref q_12, .int 0, .ref q_30, .ref q_38])), (q_12, .inl (dA 1, 16, .inr (.inl (fun j => if j < 16 then -1 else 0)))), (q_30, .inl (dA 0, 64, .inl (fun _ => 0))), (q_38, .inl (dA 1, 64, .inr (.inl (fun _ => 0))))]) (gn_s0) ?_
  refine gx_vret C dd_Ma_init_43 ?_
  exact ⟨rfl, q_12, q_30, q_38, rfl⟩
set_option maxRecDepth 100000 in
set_option maxHeartbeats 4000000 in
theorem ct_Co_init (l : Launch) (D : va_G) (dA : Nat → ClassId) (ws0 : va_W) (b : Nat) : gx_Ct l D dA yy_Co_init cc_Co_init 1 none 1 1 16 [.ref b] (ws0 ++ [(b, .inr (2, [.null, .null, .null, .null]))]) (fun v w => v = none ∧ ∃ v0 : Nat, w = ws0 ++ [(b, .inr (2, [.null, .null, .null, .ref v0])), (v0, .inl (dA 0, 16, .inl (fun _ => 0)))]) := by
  refine gx_of (by decide) (Nat.le_of_ble_eq_true rfl) (fun K C hc0 hs0 => ?_)
  refine gx_aload_n C 0 dd_Co_init_0 (kk := ?_)
  refine gn_obj C oi_Co dd_Co_init_1 (by decide) (kk := ?_)
  refine gx_aload_n C 0 dd_Co_init_4 (kk := ?_)
  refine gx_bipush (v := nI 16) C dd_Co_init_5 (kk := ?_)
  refine gn_newa C (N' := 16) (a0 := (16, .inl (fun _ => 0))) 0 rfl ac_i rfl (fun _ => rfl) (by decide) rfl (by decide) (by rw [hc0]; decide) (by rw [hs0]; decide) dd_Co_init_7 (kk := fun q_7 => ?_)
  refine gx_wld (ws' := ws0 ++ [(b, .inr (2, [.null, .null, .null, .null])), (q_7, .inl (dA 0, 16, .inl (fun _ => 0)))]) (by simp) ?_
  refine gx_putF0 C ff_Co_9 rfl ws0.length gn_a0 dd_Co_init_9 rfl rfl (Nat.le_of_ble_eq_true rfl) ?_
  refine gx_wld (ws' := ws0 ++ [(b, .inr (2, [.null, .null, .null, .ref q_7])), (q_7, .inl (dA 0, 16, .inl (fun _ => 0)))]) (gn_s0) ?_
  refine gx_vret C dd_Co_init_12 ?_
  exact ⟨rfl, q_7, rfl⟩
set_option maxRecDepth 100000 in
set_option maxHeartbeats 4000000 in
theorem ct_Ba_init (l : Launch) (D : va_G) (dA : Nat → ClassId) (ws0 : va_W) (b : Nat) : gx_Ct l D dA yy_Ba_init cc_Ba_init 1 none 1 1 16 [.ref b] (ws0 ++ [(b, .inr (0, [.null]))]) (fun v w => v = none ∧ ∃ v0 : Nat, w = ws0 ++ [(b, .inr (0, [.ref v0])), (v0, .inl (dA 1, 16, .inr (.inl (fun _ => 0))))]) := by
  refine gx_of (by decide) (Nat.le_of_ble_eq_true rfl) (fun K C hc0 hs0 => ?_)
  refine gx_aload_n C 0 dd_Ba_init_0 (kk := ?_)
  refine gn_obj C oi_Ba dd_Ba_init_1 (by decide) (kk := ?_)
  refine gx_aload_n C 0 dd_Ba_init_4 (kk := ?_)
  refine gx_bipush (v := nI 16) C dd_Ba_init_5 (kk := ?_)
  refine gn_newa C (N' := 16) (a0 := (16, .inr (.inl (fun _ => 0)))) 1 rfl ac_l rfl (fun _ => rfl) (by decide) rfl (by decide) (by rw [hc0]; decide) (by rw [hs0]; decide) dd_Ba_init_7 (kk := fun q_7 => ?_)
  refine gx_wld (ws' := ws0 ++ [(b, .inr (0, [.null])), (q_7, .inl (dA 1, 16, .inr (.inl (fun _ => 0))))]) (by simp) ?_
  refine gx_putF0 C ff_Ba_9 rfl ws0.length gn_a0 dd_Ba_init_9 rfl rfl (Nat.le_of_ble_eq_true rfl) ?_
  refine gx_wld (ws' := ws0 ++ [(b, .inr (0, [.ref q_7])), (q_7, .inl (dA 1, 16, .inr (.inl (fun _ => 0))))]) (gn_s0) ?_
  refine gx_vret C dd_Ba_init_12 ?_
  exact ⟨rfl, q_7, rfl⟩
set_option maxRecDepth 100000 in
set_option maxHeartbeats 4000000 in
theorem ct_De_init (l : Launch) (D : va_G) (dA : Nat → ClassId) (ws0 : va_W) (b : Nat) : gx_Ct l D dA yy_De_init cc_De_init 1 none 1 2 272 [.ref b] (ws0 ++ [(b, .inr (3, [.null, .null, .null, .null]))]) (fun v w => v = none ∧ ∃ v0 v1 : Nat, w = ws0 ++ [(b, .inr (3, [.null, .null, .ref v0, .ref v1])), (v0, .inl (dA 1, 256, .inr (.inl (fun _ => 0)))), (v1, .inl (dA 1, 16, .inr (.inl (fun _ => 0))))]) := by
  refine gx_of (by decide) (Nat.le_of_ble_eq_true rfl) (fun K C hc0 hs0 => ?_)
  refine gx_aload_n C 0 dd_De_init_0 (kk := ?_)
  refine gn_obj C oi_De dd_De_init_1 (by decide) (kk := ?_)
  refine gx_aload_n C 0 dd_De_init_4 (kk := ?_)
  refine gx_sipush (v := nI 256) C dd_De_init_5 (kk := ?_)
  refine gn_newa C (N' := 256) (a0 := (256, .inr (.inl (fun _ => 0)))) 1 rfl ac_l rfl (fun _ => rfl) (by decide) rfl (by decide) (by rw [hc0]; decide) (by rw [hs0]; decide) dd_De_init_8 (kk := fun q_8 => ?_)
  refine gx_wld (ws' := ws0 ++ [(b, .inr (3, [.null, .null, .null, .null])), (q_8, .inl (dA 1, 256, .inr (.inl (fun _ => 0))))]) (by simp) ?_
  refine gx_putF0 C ff_De_9 rfl ws0.length gn_a0 dd_De_init_10 rfl rfl (Nat.le_of_ble_eq_true rfl) ?_
  refine gx_wld (ws' := ws0 ++ [(b, .inr (3, [.null, .null, .ref q_8, .null])), (q_8, .inl (dA 1, 256, .inr (.inl (fun _ => 0))))]) (gn_s0) ?_
  refine gx_aload_n C 0 dd_De_init_13 (kk := ?_)
  refine gx_bipush (v := nI 16) C dd_De_init_14 (kk := ?_)
  refine gn_newa C (N' := 16) (a0 := (16, .inr (.inl (fun _ => 0)))) 1 rfl ac_l rfl (fun _ => rfl) (by decide) rfl (by decide) (by rw [hc0]; decide) (by rw [hs0]; decide) dd_De_init_16 (kk := fun q_16 => ?_)
  refine gx_wld (ws' := ws0 ++ [(b, .inr (3, [.null, .null, .ref q_8, .null])), (q_8, .inl (dA 1, 256, .inr (.inl (fun _ => 0)))), (q_16, .inl (dA 1, 16, .inr (.inl (fun _ => 0))))]) (by simp) ?_
  refine gx_putF0 C ff_De_15 rfl ws0.length gn_a0 dd_De_init_18 rfl rfl (Nat.le_of_ble_eq_true rfl) ?_
  refine gx_wld (ws' := ws0 ++ [(b, .inr (3, [.null, .null, .ref q_8, .ref q_16])), (q_8, .inl (dA 1, 256, .inr (.inl (fun _ => 0)))), (q_16, .inl (dA 1, 16, .inr (.inl (fun _ => 0))))]) (gn_s0) ?_
  refine gx_vret C dd_De_init_21 ?_
  exact ⟨rfl, q_8, q_16, rfl⟩
set_option maxRecDepth 100000 in
set_option maxHeartbeats 4000000 in
theorem ct_On_init (l : Launch) (D : va_G) (dA : Nat → ClassId) (ws0 : va_W) (b : Nat) : gx_Ct l D dA yy_On_init cc_On_init 1 none 1 1 16 [.ref b] (ws0 ++ [(b, .inr (5, [.null]))]) (fun v w => v = none ∧ ∃ v0 : Nat, w = ws0 ++ [(b, .inr (5, [.ref v0])), (v0, .inl (dA 1, 16, .inr (.inl (fun _ => 0))))]) := by
  refine gx_of (by decide) (Nat.le_of_ble_eq_true rfl) (fun K C hc0 hs0 => ?_)
  refine gx_aload_n C 0 dd_On_init_0 (kk := ?_)
  refine gn_obj C oi_On dd_On_init_1 (by decide) (kk := ?_)
  refine gx_aload_n C 0 dd_On_init_4 (kk := ?_)
  refine gx_bipush (v := nI 16) C dd_On_init_5 (kk := ?_)
  refine gn_newa C (N' := 16) (a0 := (16, .inr (.inl (fun _ => 0)))) 1 rfl ac_l rfl (fun _ => rfl) (by decide) rfl (by decide) (by rw [hc0]; decide) (by rw [hs0]; decide) dd_On_init_7 (kk := fun q_7 => ?_)
  refine gx_wld (ws' := ws0 ++ [(b, .inr (5, [.null])), (q_7, .inl (dA 1, 16, .inr (.inl (fun _ => 0))))]) (by simp) ?_
  refine gx_putF0 C ff_On_9 rfl ws0.length gn_a0 dd_On_init_9 rfl rfl (Nat.le_of_ble_eq_true rfl) ?_
  refine gx_wld (ws' := ws0 ++ [(b, .inr (5, [.ref q_7])), (q_7, .inl (dA 1, 16, .inr (.inl (fun _ => 0))))]) (gn_s0) ?_
  refine gx_vret C dd_On_init_12 ?_
  exact ⟨rfl, q_7, rfl⟩
set_option maxRecDepth 100000 in
set_option maxHeartbeats 4000000 in
theorem ct_Ro_init (l : Launch) (D : va_G) (dA : Nat → ClassId) (ws0 : va_W) (b : Nat) : gx_Ct l D dA yy_Ro_init cc_Ro_init 1 none 1 1 8 [.ref b] (ws0 ++ [(b, .inr (7, [.int 0, .null]))]) (fun v w => v = none ∧ ∃ v0 : Nat, w = ws0 ++ [(b, .inr (7, [.int 0, .ref v0])), (v0, .inl (dA 0, 8, .inl (fun _ => 0)))]) := by
  refine gx_of (by decide) (Nat.le_of_ble_eq_true rfl) (fun K C hc0 hs0 => ?_)
  refine gx_aload_n C 0 dd_Ro_init_0 (kk := ?_)
  refine gn_obj C oi_Ro dd_Ro_init_1 (by decide) (kk := ?_)
  refine gx_aload_n C 0 dd_Ro_init_4 (kk := ?_)
  refine gx_bipush (v := nI 8) C dd_Ro_init_5 (kk := ?_)
  refine gn_newa C (N' := 8) (a0 := (8, .inl (fun _ => 0))) 0 rfl ac_i rfl (fun _ => rfl) (by decide) rfl (by decide) (by rw [hc0]; decide) (by rw [hs0]; decide) dd_Ro_init_7 (kk := fun q_7 => ?_)
  refine gx_wld (ws' := ws0 ++ [(b, .inr (7, [.int 0, .null])), (q_7, .inl (dA 0, 8, .inl (fun _ => 0)))]) (by simp) ?_
  refine gx_putF0 C ff_Ro_9 rfl ws0.length gn_a0 dd_Ro_init_9 rfl rfl (Nat.le_of_ble_eq_true rfl) ?_
  refine gx_wld (ws' := ws0 ++ [(b, .inr (7, [.int 0, .ref q_7])), (q_7, .inl (dA 0, 8, .inl (fun _ => 0)))]) (gn_s0) ?_
  refine gx_vret C dd_Ro_init_12 ?_
  exact ⟨rfl, q_7, rfl⟩
set_option maxRecDepth 100000 in
set_option maxHeartbeats 4000000 in
theorem ct_We_init (l : Launch) (D : va_G) (dA : Nat → ClassId) (ws0 : va_W) (b : Nat) : gx_Ct l D dA yy_We_init cc_We_init 1 none 2 5 1316 [.ref b] (ws0 ++ [(b, .inr (9, [.null, .null, .null]))]) (fun v w => v = none ∧ ∃ v0 v1 v2 v3 v4 : Nat, w = ws0 ++ [(b, .inr (9, [.ref v0, .ref v2, .ref v4])), (v0, .inr (7, [.int 0, .ref v1])), (v1, .inl (dA 0, 8, .inl (fun _ => 0))), (v2, .inr (7, [.int 0, .ref v3])), (v3, .inl (dA 0, 8, .inl (fun _ => 0))), (v4, .inl (dA 1, 1296, .inr (.inl (fun _ => 0))))]) := by
  refine gx_of (by decide) (Nat.le_of_ble_eq_true rfl) (fun K C hc0 hs0 => ?_)
  refine gx_aload_n C 0 dd_We_init_0 (kk := ?_)
  refine gn_obj C oi_We dd_We_init_1 (by decide) (kk := ?_)
  refine gx_aload_n C 0 dd_We_init_4 (kk := ?_)
  refine gn_new C (ci := 7) (fs := [.int 0, .null]) rfl ly_Ro tk_Ro cl_We_9 in_Ro iz_Ro df_Ro (by rw [hc0]; decide) (by rw [hs0]; decide) dd_We_init_5 (kk := fun q_5 => ?_)
  refine gx_dup C dd_We_init_8 (kk := ?_)
  refine gn_callI C (ct_Ro_init (gx_l K) D dA _ _) me_Ro_init ml_We_11 mn_Ro_init rfl dd_We_init_9 (hf := ⟨by rw [hc0]; decide, by rw [hs0]; decide⟩) (kk := fun v w hq => ?_)
  obtain ⟨rfl, v0_9, rfl⟩ := hq
  refine gx_wld (ws' := ws0 ++ [(b, .inr (9, [.null, .null, .null])), (q_5, .inr (7, [.int 0, .ref v0_9])), (v0_9, .inl (dA 0, 8, .inl (fun _ => 0)))]) (by simp) ?_
  refine gx_putF0 C ff_We_12 rfl ws0.length gn_a0 dd_We_init_12 rfl rfl (Nat.le_of_ble_eq_true rfl) ?_
  refine gx_wld (ws' := ws0 ++ [(b, .inr (9, [.ref q_5, .null, .null])), (q_5, .inr (7, [.int 0, .ref v0_9])), (v0_9, .inl (dA 0, 8, .inl (fun _ => 0)))]) (gn_s0) ?_
  refine gx_aload_n C 0 dd_We_init_15 (kk := ?_)
  refine gn_new C (ci := 7) (fs := [.int 0, .null]) rfl ly_Ro tk_Ro cl_We_9 in_Ro iz_Ro df_Ro (by rw [hc0]; decide) (by rw [hs0]; decide) dd_We_init_16 (kk := fun q_16 => ?_)
  refine gx_dup C dd_We_init_19 (kk := ?_)
  refine gn_callI C (ct_Ro_init (gx_l K) D dA _ _) me_Ro_init ml_We_11 mn_Ro_init rfl dd_We_init_20 (hf := ⟨by rw [hc0]; decide, by rw [hs0]; decide⟩) (kk := fun v w hq => ?_)
  obtain ⟨rfl, v0_20, rfl⟩ := hq
  refine gx_wld (ws' := ws0 ++ [(b, .inr (9, [.ref q_5, .null, .null])), (q_5, .inr (7, [.int 0, .ref v0_9])), (v0_9, .inl (dA 0, 8, .inl (fun _ => 0))), (q_16, .inr (7, [.int 0, .ref v0_20])), (v0_20, .inl (dA 0, 8, .inl (fun _ => 0)))]) (by simp) ?_
  refine gx_putF0 C ff_We_18 rfl ws0.length gn_a0 dd_We_init_23 rfl rfl (Nat.le_of_ble_eq_true rfl) ?_
  refine gx_wld (ws' := ws0 ++ [(b, .inr (9, [.ref q_5, .ref q_16, .null])), (q_5, .inr (7, [.int 0, .ref v0_9])), (v0_9, .inl (dA 0, 8, .inl (fun _ => 0))), (q_16, .inr (7, [.int 0, .ref v0_20])), (v0_20, .inl (dA 0, 8, .inl (fun _ => 0)))]) (gn_s0) ?_
  refine gx_aload_n C 0 dd_We_init_26 (kk := ?_)
  refine gx_sipush (v := nI 1296) C dd_We_init_27 (kk := ?_)
  refine gn_newa C (N' := 1296) (a0 := (1296, .inr (.inl (fun _ => 0)))) 1 rfl ac_l rfl (fun _ => rfl) (by decide) rfl (by decide) (by rw [hc0]; decide) (by rw [hs0]; decide) dd_We_init_30 (kk := fun q_30 => ?_)
  refine gx_wld (ws' := ws0 ++ [(b, .inr (9, [.ref q_5, .ref q_16, .null])), (q_5, .inr (7, [.int 0, .ref v0_9])), (v0_9, .inl (dA 0, 8, .inl (fun _ => 0))), (q_16, .inr (7, [.int 0, .ref v0_20])), (v0_20, .inl (dA 0, 8, .inl (fun _ => 0))), (q_30, .inl (dA 1, 1296, .inr (.inl (fun _ => 0))))]) (by simp) ?_
  refine gx_putF0 C ff_We_21 rfl ws0.length gn_a0 dd_We_init_32 rfl rfl (Nat.le_of_ble_eq_true rfl) ?_
  refine gx_wld (ws' := ws0 ++ [(b, .inr (9, [.ref q_5, .ref q_16, .ref q_30])), (q_5, .inr (7, [.int 0, .ref v0_9])), (v0_9, .inl (dA 0, 8, .inl (fun _ => 0))), (q_16, .inr (7, [.int 0, .ref v0_20])), (v0_20, .inl (dA 0, 8, .inl (fun _ => 0))), (q_30, .inl (dA 1, 1296, .inr (.inl (fun _ => 0))))]) (gn_s0) ?_
  refine gx_vret C dd_We_init_35 ?_
  exact ⟨rfl, q_5, v0_9, q_16, v0_20, q_30, rfl⟩
set_option maxRecDepth 100000 in
set_option maxHeartbeats 4000000 in
theorem ct_BP_init (l : Launch) (D : va_G) (dA : Nat → ClassId) (ws0 : va_W) (b : Nat) : gx_Ct l D dA yy_BP_init cc_BP_init 1 none 1 2 32 [.ref b] (ws0 ++ [(b, .inr (1, [.int 0, .null, .null]))]) (fun v w => v = none ∧ ∃ v0 v1 : Nat, w = ws0 ++ [(b, .inr (1, [.int 0, .ref v0, .ref v1])), (v0, .inl (dA 0, 16, .inl (fun _ => 0))), (v1, .inl (dA 1, 16, .inr (.inl (fun _ => 0))))]) := by
  refine gx_of (by decide) (Nat.le_of_ble_eq_true rfl) (fun K C hc0 hs0 => ?_)
  refine gx_aload_n C 0 dd_BP_init_0 (kk := ?_)
  refine gn_obj C oi_BP dd_BP_init_1 (by decide) (kk := ?_)
  refine gx_aload_n C 0 dd_BP_init_4 (kk := ?_)
  refine gx_bipush (v := nI 16) C dd_BP_init_5 (kk := ?_)
  refine gn_newa C (N' := 16) (a0 := (16, .inl (fun _ => 0))) 0 rfl ac_i rfl (fun _ => rfl) (by decide) rfl (by decide) (by rw [hc0]; decide) (by rw [hs0]; decide) dd_BP_init_7 (kk := fun q_7 => ?_)
  refine gx_wld (ws' := ws0 ++ [(b, .inr (1, [.int 0, .null, .null])), (q_7, .inl (dA 0, 16, .inl (fun _ => 0)))]) (by simp) ?_
  refine gx_putF0 C ff_BP_9 rfl ws0.length gn_a0 dd_BP_init_9 rfl rfl (Nat.le_of_ble_eq_true rfl) ?_
  refine gx_wld (ws' := ws0 ++ [(b, .inr (1, [.int 0, .ref q_7, .null])), (q_7, .inl (dA 0, 16, .inl (fun _ => 0)))]) (gn_s0) ?_
  refine gx_aload_n C 0 dd_BP_init_12 (kk := ?_)
  refine gx_bipush (v := nI 16) C dd_BP_init_13 (kk := ?_)
  refine gn_newa C (N' := 16) (a0 := (16, .inr (.inl (fun _ => 0)))) 1 rfl ac_l rfl (fun _ => rfl) (by decide) rfl (by decide) (by rw [hc0]; decide) (by rw [hs0]; decide) dd_BP_init_15 (kk := fun q_15 => ?_)
  refine gx_wld (ws' := ws0 ++ [(b, .inr (1, [.int 0, .ref q_7, .null])), (q_7, .inl (dA 0, 16, .inl (fun _ => 0))), (q_15, .inl (dA 1, 16, .inr (.inl (fun _ => 0))))]) (by simp) ?_
  refine gx_putF0 C ff_BP_15 rfl ws0.length gn_a0 dd_BP_init_17 rfl rfl (Nat.le_of_ble_eq_true rfl) ?_
  refine gx_wld (ws' := ws0 ++ [(b, .inr (1, [.int 0, .ref q_7, .ref q_15])), (q_7, .inl (dA 0, 16, .inl (fun _ => 0))), (q_15, .inl (dA 1, 16, .inr (.inl (fun _ => 0))))]) (gn_s0) ?_
  refine gx_vret C dd_BP_init_20 ?_
  exact ⟨rfl, q_7, q_15, rfl⟩
set_option maxRecDepth 100000 in
set_option maxHeartbeats 4000000 in
theorem ct_Te_init (l : Launch) (D : va_G) (dA : Nat → ClassId) (ws0 : va_W) (b : Nat) : gx_Ct l D dA yy_Te_init cc_Te_init 1 none 1 1 1600 [.ref b] (ws0 ++ [(b, .inr (8, [.int 0, .null]))]) (fun v w => v = none ∧ ∃ v0 : Nat, w = ws0 ++ [(b, .inr (8, [.int 0, .ref v0])), (v0, .inl (dA 2, 1600, .inl (fun _ => 0)))]) := by
  refine gx_of (by decide) (Nat.le_of_ble_eq_true rfl) (fun K C hc0 hs0 => ?_)
  refine gx_aload_n C 0 dd_Te_init_0 (kk := ?_)
  refine gn_obj C oi_Te dd_Te_init_1 (by decide) (kk := ?_)
  refine gx_aload_n C 0 dd_Te_init_4 (kk := ?_)
  refine gx_sipush (v := nI 1600) C dd_Te_init_5 (kk := ?_)
  refine gn_newa C (N' := 1600) (a0 := (1600, .inl (fun _ => 0))) 2 rfl ac_c rfl (fun _ => rfl) (by decide) rfl (by decide) (by rw [hc0]; decide) (by rw [hs0]; decide) dd_Te_init_8 (kk := fun q_8 => ?_)
  refine gx_wld (ws' := ws0 ++ [(b, .inr (8, [.int 0, .null])), (q_8, .inl (dA 2, 1600, .inl (fun _ => 0)))]) (by simp) ?_
  refine gx_putF0 C ff_Te_9 rfl ws0.length gn_a0 dd_Te_init_10 rfl rfl (Nat.le_of_ble_eq_true rfl) ?_
  refine gx_wld (ws' := ws0 ++ [(b, .inr (8, [.int 0, .ref q_8])), (q_8, .inl (dA 2, 1600, .inl (fun _ => 0)))]) (gn_s0) ?_
  refine gx_vret C dd_Te_init_13 ?_
  exact ⟨rfl, q_8, rfl⟩
set_option maxRecDepth 100000 in
set_option maxHeartbeats 4000000 in
theorem ct_Pa_init (l : Launch) (D : va_G) (dA : Nat → ClassId) (ws0 : va_W) (b : Nat) : gx_Ct l D dA yy_Pa_init cc_Pa_init 1 none 1 0 0 [.ref b] (ws0 ++ [(b, .inr (6, [.null, .null, .int 0, .long 0]))]) (fun v w => v = none ∧ w = ws0 ++ [(b, .inr (6, [.null, .null, .int 0, .long 0]))]) := by
  refine gx_of (by decide) (Nat.le_of_ble_eq_true rfl) (fun K C hc0 hs0 => ?_)
  refine gx_aload_n C 0 dd_Pa_init_0 (kk := ?_)
  refine gn_obj C oi_Pa dd_Pa_init_1 (by decide) (kk := ?_)
  refine gx_vret C dd_Pa_init_4 ?_
  exact ⟨rfl, rfl⟩
