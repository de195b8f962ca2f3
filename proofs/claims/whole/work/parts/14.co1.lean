theorem dd_Co_tripleOf_0 : decode cc_Co_tripleOf 0 = .ok (.iload_n 0, 1) := by decide +kernel
theorem dd_Co_tripleOf_1 : decode cc_Co_tripleOf 1 = .ok (.bipush 6, 2) := by decide +kernel
theorem dd_Co_tripleOf_3 : decode cc_Co_tripleOf 3 = .ok (.ishl, 1) := by decide +kernel
theorem dd_Co_tripleOf_4 : decode cc_Co_tripleOf 4 = .ok (.iload_n 1, 1) := by decide +kernel
theorem dd_Co_tripleOf_5 : decode cc_Co_tripleOf 5 = .ok (.iconst 2, 1) := by decide +kernel
theorem dd_Co_tripleOf_6 : decode cc_Co_tripleOf 6 = .ok (.ishl, 1) := by decide +kernel
theorem dd_Co_tripleOf_7 : decode cc_Co_tripleOf 7 = .ok (.ior, 1) := by decide +kernel
theorem dd_Co_tripleOf_8 : decode cc_Co_tripleOf 8 = .ok (.iload_n 2, 1) := by decide +kernel
theorem dd_Co_tripleOf_9 : decode cc_Co_tripleOf 9 = .ok (.ior, 1) := by decide +kernel
theorem dd_Co_tripleOf_10 : decode cc_Co_tripleOf 10 = .ok (.ireturn, 1) := by decide +kernel
theorem dd_Co_find_0 : decode cc_Co_find 0 = .ok (.iconst 0, 1) := by decide +kernel
theorem dd_Co_find_1 : decode cc_Co_find 1 = .ok (.istore_n 2, 1) := by decide +kernel
theorem dd_Co_find_2 : decode cc_Co_find 2 = .ok (.iload_n 2, 1) := by decide +kernel
theorem dd_Co_find_3 : decode cc_Co_find 3 = .ok (.aload_n 0, 1) := by decide +kernel
theorem dd_Co_find_4 : decode cc_Co_find 4 = .ok (.getfield 22, 3) := by decide +kernel
theorem dd_Co_find_7 : decode cc_Co_find 7 = .ok (.getfield 51, 3) := by decide +kernel
theorem dd_Co_find_10 : decode cc_Co_find 10 = .ok (.if_icmp .ge 21, 3) := by decide +kernel
theorem dd_Co_find_13 : decode cc_Co_find 13 = .ok (.aload_n 0, 1) := by decide +kernel
theorem dd_Co_find_14 : decode cc_Co_find 14 = .ok (.getfield 9, 3) := by decide +kernel
theorem dd_Co_find_17 : decode cc_Co_find 17 = .ok (.iload_n 2, 1) := by decide +kernel
theorem dd_Co_find_18 : decode cc_Co_find 18 = .ok (.iaload, 1) := by decide +kernel
theorem dd_Co_find_19 : decode cc_Co_find 19 = .ok (.iload_n 1, 1) := by decide +kernel
theorem dd_Co_find_20 : decode cc_Co_find 20 = .ok (.if_icmp .ne 5, 3) := by decide +kernel
theorem dd_Co_find_23 : decode cc_Co_find 23 = .ok (.iload_n 2, 1) := by decide +kernel
theorem dd_Co_find_24 : decode cc_Co_find 24 = .ok (.ireturn, 1) := by decide +kernel
theorem dd_Co_find_25 : decode cc_Co_find 25 = .ok (.iinc 2 1, 3) := by decide +kernel
theorem dd_Co_find_28 : decode cc_Co_find 28 = .ok (.goto (-26), 3) := by decide +kernel
theorem dd_Co_find_31 : decode cc_Co_find 31 = .ok (.aload_n 0, 1) := by decide +kernel
theorem dd_Co_find_32 : decode cc_Co_find 32 = .ok (.getfield 22, 3) := by decide +kernel
theorem dd_Co_find_35 : decode cc_Co_find 35 = .ok (.getfield 51, 3) := by decide +kernel
theorem dd_Co_find_38 : decode cc_Co_find 38 = .ok (.bipush 16, 2) := by decide +kernel
theorem dd_Co_find_40 : decode cc_Co_find 40 = .ok (.if_icmp .lt 5, 3) := by decide +kernel
theorem dd_Co_find_43 : decode cc_Co_find 43 = .ok (.iconst (-1), 1) := by decide +kernel
theorem dd_Co_find_44 : decode cc_Co_find 44 = .ok (.ireturn, 1) := by decide +kernel
theorem dd_Co_find_45 : decode cc_Co_find 45 = .ok (.aload_n 0, 1) := by decide +kernel
theorem dd_Co_find_46 : decode cc_Co_find 46 = .ok (.getfield 9, 3) := by decide +kernel
theorem dd_Co_find_49 : decode cc_Co_find 49 = .ok (.aload_n 0, 1) := by decide +kernel
theorem dd_Co_find_50 : decode cc_Co_find 50 = .ok (.getfield 22, 3) := by decide +kernel
theorem dd_Co_find_53 : decode cc_Co_find 53 = .ok (.getfield 51, 3) := by decide +kernel
theorem dd_Co_find_56 : decode cc_Co_find 56 = .ok (.iload_n 1, 1) := by decide +kernel
theorem dd_Co_find_57 : decode cc_Co_find 57 = .ok (.iastore, 1) := by decide +kernel
theorem dd_Co_find_58 : decode cc_Co_find 58 = .ok (.aload_n 0, 1) := by decide +kernel
theorem dd_Co_find_59 : decode cc_Co_find 59 = .ok (.getfield 22, 3) := by decide +kernel
theorem dd_Co_find_62 : decode cc_Co_find 62 = .ok (.dup, 1) := by decide +kernel
theorem dd_Co_find_63 : decode cc_Co_find 63 = .ok (.getfield 51, 3) := by decide +kernel
theorem dd_Co_find_66 : decode cc_Co_find 66 = .ok (.iconst 1, 1) := by decide +kernel
theorem dd_Co_find_67 : decode cc_Co_find 67 = .ok (.iadd, 1) := by decide +kernel
theorem dd_Co_find_68 : decode cc_Co_find 68 = .ok (.putfield 51, 3) := by decide +kernel
theorem dd_Co_find_71 : decode cc_Co_find 71 = .ok (.aload_n 0, 1) := by decide +kernel
theorem dd_Co_find_72 : decode cc_Co_find 72 = .ok (.getfield 22, 3) := by decide +kernel
theorem dd_Co_find_75 : decode cc_Co_find 75 = .ok (.getfield 51, 3) := by decide +kernel
theorem dd_Co_find_78 : decode cc_Co_find 78 = .ok (.iconst 1, 1) := by decide +kernel
theorem dd_Co_find_79 : decode cc_Co_find 79 = .ok (.isub, 1) := by decide +kernel
theorem dd_Co_find_80 : decode cc_Co_find 80 = .ok (.ireturn, 1) := by decide +kernel
theorem dd_Co_bring_0 : decode cc_Co_bring 0 = .ok (.aload_n 0, 1) := by decide +kernel
theorem dd_Co_bring_1 : decode cc_Co_bring 1 = .ok (.iload_n 2, 1) := by decide +kernel
theorem dd_Co_bring_2 : decode cc_Co_bring 2 = .ok (.invokevirtual 39, 3) := by decide +kernel
theorem dd_Co_bring_5 : decode cc_Co_bring 5 = .ok (.istore 6, 2) := by decide +kernel
theorem dd_Co_bring_7 : decode cc_Co_bring 7 = .ok (.iload 6, 2) := by decide +kernel
theorem dd_Co_bring_9 : decode cc_Co_bring 9 = .ok (.iconst (-1), 1) := by decide +kernel
theorem dd_Co_bring_10 : decode cc_Co_bring 10 = .ok (.if_icmp .eq 26, 3) := by decide +kernel
theorem dd_Co_bring_13 : decode cc_Co_bring 13 = .ok (.aload_n 0, 1) := by decide +kernel
theorem dd_Co_bring_14 : decode cc_Co_bring 14 = .ok (.getfield 22, 3) := by decide +kernel
theorem dd_Co_bring_17 : decode cc_Co_bring 17 = .ok (.iload_n 1, 1) := by decide +kernel
theorem dd_Co_bring_18 : decode cc_Co_bring 18 = .ok (.iload_n 3, 1) := by decide +kernel
theorem dd_Co_bring_19 : decode cc_Co_bring 19 = .ok (.iload 6, 2) := by decide +kernel
theorem dd_Co_bring_21 : decode cc_Co_bring 21 = .ok (.invokestatic 76, 3) := by decide +kernel
theorem dd_Co_bring_24 : decode cc_Co_bring 24 = .ok (.lload 4, 2) := by decide +kernel
theorem dd_Co_bring_26 : decode cc_Co_bring 26 = .ok (.invokevirtual 106, 3) := by decide +kernel
theorem dd_Co_bring_29 : decode cc_Co_bring 29 = .ok (.ifCond .eq 7, 3) := by decide +kernel
theorem dd_Co_bring_32 : decode cc_Co_bring 32 = .ok (.iconst 1, 1) := by decide +kernel
theorem dd_Co_bring_33 : decode cc_Co_bring 33 = .ok (.goto 4, 3) := by decide +kernel
theorem dd_Co_bring_36 : decode cc_Co_bring 36 = .ok (.iconst 0, 1) := by decide +kernel
theorem dd_Co_bring_37 : decode cc_Co_bring 37 = .ok (.ireturn, 1) := by decide +kernel
theorem dd_Co_bringSecond_0 : decode cc_Co_bringSecond 0 = .ok (.aload_n 0, 1) := by decide +kernel
theorem dd_Co_bringSecond_1 : decode cc_Co_bringSecond 1 = .ok (.getfield 19, 3) := by decide +kernel
theorem dd_Co_bringSecond_4 : decode cc_Co_bringSecond 4 = .ok (.iload_n 3, 1) := by decide +kernel
theorem dd_Co_bringSecond_5 : decode cc_Co_bringSecond 5 = .ok (.iconst 1, 1) := by decide +kernel
theorem dd_Co_bringSecond_6 : decode cc_Co_bringSecond 6 = .ok (.iconst 0, 1) := by decide +kernel
theorem dd_Co_bringSecond_7 : decode cc_Co_bringSecond 7 = .ok (.invokestatic 88, 3) := by decide +kernel
theorem dd_Co_bringSecond_10 : decode cc_Co_bringSecond 10 = .ok (.iconst 0, 1) := by decide +kernel
theorem dd_Co_bringSecond_11 : decode cc_Co_bringSecond 11 = .ok (.invokestatic 76, 3) := by decide +kernel
theorem dd_Co_bringSecond_14 : decode cc_Co_bringSecond 14 = .ok (.invokevirtual 79, 3) := by decide +kernel
theorem dd_Co_bringSecond_17 : decode cc_Co_bringSecond 17 = .ok (.istore 4, 2) := by decide +kernel
theorem dd_Co_bringSecond_19 : decode cc_Co_bringSecond 19 = .ok (.aload_n 0, 1) := by decide +kernel
theorem dd_Co_bringSecond_20 : decode cc_Co_bringSecond 20 = .ok (.getfield 19, 3) := by decide +kernel
theorem dd_Co_bringSecond_23 : decode cc_Co_bringSecond 23 = .ok (.iload_n 3, 1) := by decide +kernel
theorem dd_Co_bringSecond_24 : decode cc_Co_bringSecond 24 = .ok (.iconst 0, 1) := by decide +kernel
theorem dd_Co_bringSecond_25 : decode cc_Co_bringSecond 25 = .ok (.iconst 0, 1) := by decide +kernel
theorem dd_Co_bringSecond_26 : decode cc_Co_bringSecond 26 = .ok (.invokestatic 76, 3) := by decide +kernel
theorem dd_Co_bringSecond_29 : decode cc_Co_bringSecond 29 = .ok (.invokevirtual 79, 3) := by decide +kernel
theorem dd_Co_bringSecond_32 : decode cc_Co_bringSecond 32 = .ok (.istore 5, 2) := by decide +kernel
theorem dd_Co_bringSecond_34 : decode cc_Co_bringSecond 34 = .ok (.iload 5, 2) := by decide +kernel
theorem dd_Co_bringSecond_36 : decode cc_Co_bringSecond 36 = .ok (.iload 4, 2) := by decide +kernel
theorem dd_Co_bringSecond_38 : decode cc_Co_bringSecond 38 = .ok (.if_icmp .ge 64, 3) := by decide +kernel
theorem dd_Co_bringSecond_41 : decode cc_Co_bringSecond 41 = .ok (.aload_n 0, 1) := by decide +kernel
theorem dd_Co_bringSecond_42 : decode cc_Co_bringSecond 42 = .ok (.getfield 19, 3) := by decide +kernel
theorem dd_Co_bringSecond_45 : decode cc_Co_bringSecond 45 = .ok (.getfield 82, 3) := by decide +kernel
theorem dd_Co_bringSecond_48 : decode cc_Co_bringSecond 48 = .ok (.iload 5, 2) := by decide +kernel
theorem dd_Co_bringSecond_50 : decode cc_Co_bringSecond 50 = .ok (.iaload, 1) := by decide +kernel
theorem dd_Co_bringSecond_51 : decode cc_Co_bringSecond 51 = .ok (.istore 6, 2) := by decide +kernel
theorem dd_Co_bringSecond_53 : decode cc_Co_bringSecond 53 = .ok (.iconst 0, 1) := by decide +kernel
theorem dd_Co_bringSecond_54 : decode cc_Co_bringSecond 54 = .ok (.iload 6, 2) := by decide +kernel
theorem dd_Co_bringSecond_56 : decode cc_Co_bringSecond 56 = .ok (.invokestatic 85, 3) := by decide +kernel
theorem dd_Co_bringSecond_59 : decode cc_Co_bringSecond 59 = .ok (.invokestatic 88, 3) := by decide +kernel
theorem dd_Co_bringSecond_62 : decode cc_Co_bringSecond 62 = .ok (.istore 7, 2) := by decide +kernel
theorem dd_Co_bringSecond_64 : decode cc_Co_bringSecond 64 = .ok (.aload_n 0, 1) := by decide +kernel
theorem dd_Co_bringSecond_65 : decode cc_Co_bringSecond 65 = .ok (.iload_n 1, 1) := by decide +kernel
theorem dd_Co_bringSecond_66 : decode cc_Co_bringSecond 66 = .ok (.iload_n 2, 1) := by decide +kernel
theorem dd_Co_bringSecond_67 : decode cc_Co_bringSecond 67 = .ok (.iload 6, 2) := by decide +kernel
theorem dd_Co_bringSecond_69 : decode cc_Co_bringSecond 69 = .ok (.invokestatic 92, 3) := by decide +kernel
theorem dd_Co_bringSecond_72 : decode cc_Co_bringSecond 72 = .ok (.iconst 2, 1) := by decide +kernel
theorem dd_Co_bringSecond_73 : decode cc_Co_bringSecond 73 = .ok (.invokestatic 35, 3) := by decide +kernel
theorem dd_Co_bringSecond_76 : decode cc_Co_bringSecond 76 = .ok (.iload 7, 2) := by decide +kernel
theorem dd_Co_bringSecond_78 : decode cc_Co_bringSecond 78 = .ok (.aload_n 0, 1) := by decide +kernel
theorem dd_Co_bringSecond_79 : decode cc_Co_bringSecond 79 = .ok (.getfield 19, 3) := by decide +kernel
theorem dd_Co_bringSecond_82 : decode cc_Co_bringSecond 82 = .ok (.getfield 98, 3) := by decide +kernel
theorem dd_Co_bringSecond_85 : decode cc_Co_bringSecond 85 = .ok (.iload 5, 2) := by decide +kernel
theorem dd_Co_bringSecond_87 : decode cc_Co_bringSecond 87 = .ok (.laload, 1) := by decide +kernel
theorem dd_Co_bringSecond_88 : decode cc_Co_bringSecond 88 = .ok (.invokevirtual 102, 3) := by decide +kernel
theorem dd_Co_bringSecond_91 : decode cc_Co_bringSecond 91 = .ok (.ifCond .ne 5, 3) := by decide +kernel
theorem dd_Co_bringSecond_94 : decode cc_Co_bringSecond 94 = .ok (.iconst 0, 1) := by decide +kernel
theorem dd_Co_bringSecond_95 : decode cc_Co_bringSecond 95 = .ok (.ireturn, 1) := by decide +kernel
theorem dd_Co_bringSecond_96 : decode cc_Co_bringSecond 96 = .ok (.iinc 5 1, 3) := by decide +kernel
theorem dd_Co_bringSecond_99 : decode cc_Co_bringSecond 99 = .ok (.goto (-65), 3) := by decide +kernel
theorem dd_Co_bringSecond_102 : decode cc_Co_bringSecond 102 = .ok (.iconst 1, 1) := by decide +kernel
theorem dd_Co_bringSecond_103 : decode cc_Co_bringSecond 103 = .ok (.ireturn, 1) := by decide +kernel
theorem dd_Co_bringFirst_0 : decode cc_Co_bringFirst 0 = .ok (.aload_n 0, 1) := by decide +kernel
theorem dd_Co_bringFirst_1 : decode cc_Co_bringFirst 1 = .ok (.getfield 15, 3) := by decide +kernel
theorem dd_Co_bringFirst_4 : decode cc_Co_bringFirst 4 = .ok (.iload_n 2, 1) := by decide +kernel
theorem dd_Co_bringFirst_5 : decode cc_Co_bringFirst 5 = .ok (.iconst 1, 1) := by decide +kernel
theorem dd_Co_bringFirst_6 : decode cc_Co_bringFirst 6 = .ok (.iadd, 1) := by decide +kernel
theorem dd_Co_bringFirst_7 : decode cc_Co_bringFirst 7 = .ok (.iconst 0, 1) := by decide +kernel
theorem dd_Co_bringFirst_8 : decode cc_Co_bringFirst 8 = .ok (.iconst 0, 1) := by decide +kernel
theorem dd_Co_bringFirst_9 : decode cc_Co_bringFirst 9 = .ok (.invokestatic 76, 3) := by decide +kernel
theorem dd_Co_bringFirst_12 : decode cc_Co_bringFirst 12 = .ok (.invokevirtual 79, 3) := by decide +kernel
theorem dd_Co_bringFirst_15 : decode cc_Co_bringFirst 15 = .ok (.istore 4, 2) := by decide +kernel
theorem dd_Co_bringFirst_17 : decode cc_Co_bringFirst 17 = .ok (.aload_n 0, 1) := by decide +kernel
theorem dd_Co_bringFirst_18 : decode cc_Co_bringFirst 18 = .ok (.getfield 15, 3) := by decide +kernel
theorem dd_Co_bringFirst_21 : decode cc_Co_bringFirst 21 = .ok (.iload_n 2, 1) := by decide +kernel
theorem dd_Co_bringFirst_22 : decode cc_Co_bringFirst 22 = .ok (.iconst 0, 1) := by decide +kernel
theorem dd_Co_bringFirst_23 : decode cc_Co_bringFirst 23 = .ok (.iconst 0, 1) := by decide +kernel
theorem dd_Co_bringFirst_24 : decode cc_Co_bringFirst 24 = .ok (.invokestatic 76, 3) := by decide +kernel
theorem dd_Co_bringFirst_27 : decode cc_Co_bringFirst 27 = .ok (.invokevirtual 79, 3) := by decide +kernel
theorem dd_Co_bringFirst_30 : decode cc_Co_bringFirst 30 = .ok (.istore 5, 2) := by decide +kernel
theorem dd_Co_bringFirst_32 : decode cc_Co_bringFirst 32 = .ok (.iload 5, 2) := by decide +kernel
theorem dd_Co_bringFirst_34 : decode cc_Co_bringFirst 34 = .ok (.iload 4, 2) := by decide +kernel
theorem dd_Co_bringFirst_36 : decode cc_Co_bringFirst 36 = .ok (.if_icmp .ge 76, 3) := by decide +kernel
theorem dd_Co_bringFirst_39 : decode cc_Co_bringFirst 39 = .ok (.aload_n 0, 1) := by decide +kernel
theorem dd_Co_bringFirst_40 : decode cc_Co_bringFirst 40 = .ok (.getfield 15, 3) := by decide +kernel
theorem dd_Co_bringFirst_43 : decode cc_Co_bringFirst 43 = .ok (.getfield 82, 3) := by decide +kernel
theorem dd_Co_bringFirst_46 : decode cc_Co_bringFirst 46 = .ok (.iload 5, 2) := by decide +kernel
theorem dd_Co_bringFirst_48 : decode cc_Co_bringFirst 48 = .ok (.iaload, 1) := by decide +kernel
theorem dd_Co_bringFirst_49 : decode cc_Co_bringFirst 49 = .ok (.istore 6, 2) := by decide +kernel
theorem dd_Co_bringFirst_51 : decode cc_Co_bringFirst 51 = .ok (.iload 6, 2) := by decide +kernel
theorem dd_Co_bringFirst_53 : decode cc_Co_bringFirst 53 = .ok (.invokestatic 92, 3) := by decide +kernel
theorem dd_Co_bringFirst_56 : decode cc_Co_bringFirst 56 = .ok (.iload_n 3, 1) := by decide +kernel
theorem dd_Co_bringFirst_57 : decode cc_Co_bringFirst 57 = .ok (.iconst 1, 1) := by decide +kernel
theorem dd_Co_bringFirst_58 : decode cc_Co_bringFirst 58 = .ok (.invokestatic 35, 3) := by decide +kernel
theorem dd_Co_bringFirst_61 : decode cc_Co_bringFirst 61 = .ok (.istore 7, 2) := by decide +kernel
theorem dd_Co_bringFirst_63 : decode cc_Co_bringFirst 63 = .ok (.iload 6, 2) := by decide +kernel
theorem dd_Co_bringFirst_65 : decode cc_Co_bringFirst 65 = .ok (.invokestatic 95, 3) := by decide +kernel
theorem dd_Co_bringFirst_68 : decode cc_Co_bringFirst 68 = .ok (.iconst 0, 1) := by decide +kernel
theorem dd_Co_bringFirst_69 : decode cc_Co_bringFirst 69 = .ok (.invokestatic 88, 3) := by decide +kernel
theorem dd_Co_bringFirst_72 : decode cc_Co_bringFirst 72 = .ok (.istore 8, 2) := by decide +kernel
theorem dd_Co_bringFirst_74 : decode cc_Co_bringFirst 74 = .ok (.iload 6, 2) := by decide +kernel
theorem dd_Co_bringFirst_76 : decode cc_Co_bringFirst 76 = .ok (.invokestatic 85, 3) := by decide +kernel
theorem dd_Co_bringFirst_79 : decode cc_Co_bringFirst 79 = .ok (.ifCond .ne 27, 3) := by decide +kernel
theorem dd_Co_bringFirst_82 : decode cc_Co_bringFirst 82 = .ok (.aload_n 0, 1) := by decide +kernel
theorem dd_Co_bringFirst_83 : decode cc_Co_bringFirst 83 = .ok (.iload_n 1, 1) := by decide +kernel
theorem dd_Co_bringFirst_84 : decode cc_Co_bringFirst 84 = .ok (.iload 7, 2) := by decide +kernel
theorem dd_Co_bringFirst_86 : decode cc_Co_bringFirst 86 = .ok (.iload 8, 2) := by decide +kernel
theorem dd_Co_bringFirst_88 : decode cc_Co_bringFirst 88 = .ok (.aload_n 0, 1) := by decide +kernel
theorem dd_Co_bringFirst_89 : decode cc_Co_bringFirst 89 = .ok (.getfield 15, 3) := by decide +kernel
theorem dd_Co_bringFirst_92 : decode cc_Co_bringFirst 92 = .ok (.getfield 98, 3) := by decide +kernel
theorem dd_Co_bringFirst_95 : decode cc_Co_bringFirst 95 = .ok (.iload 5, 2) := by decide +kernel
theorem dd_Co_bringFirst_97 : decode cc_Co_bringFirst 97 = .ok (.laload, 1) := by decide +kernel
theorem dd_Co_bringFirst_98 : decode cc_Co_bringFirst 98 = .ok (.invokevirtual 102, 3) := by decide +kernel
theorem dd_Co_bringFirst_101 : decode cc_Co_bringFirst 101 = .ok (.ifCond .ne 5, 3) := by decide +kernel
theorem dd_Co_bringFirst_104 : decode cc_Co_bringFirst 104 = .ok (.iconst 0, 1) := by decide +kernel
theorem dd_Co_bringFirst_105 : decode cc_Co_bringFirst 105 = .ok (.ireturn, 1) := by decide +kernel
theorem dd_Co_bringFirst_106 : decode cc_Co_bringFirst 106 = .ok (.iinc 5 1, 3) := by decide +kernel
theorem dd_Co_bringFirst_109 : decode cc_Co_bringFirst 109 = .ok (.goto (-77), 3) := by decide +kernel
theorem dd_Co_bringFirst_112 : decode cc_Co_bringFirst 112 = .ok (.iconst 1, 1) := by decide +kernel
theorem dd_Co_bringFirst_113 : decode cc_Co_bringFirst 113 = .ok (.ireturn, 1) := by decide +kernel
theorem co_or : ∀ p, p < 16 → ∀ q, q < 16 → ∀ f, f < 4 → p * 64 ||| q * 4 ||| f = p * 64 + q * 4 + f := by decide +kernel
def co_b : Nat := 4000000000
def co_iv (M : gm_V) (tri : Nat → Int32) (st : Option (Nat × Nat)) (en : Nat → Option Nat) (c : co_S) : Prop := gm_is M (c.1.length, st, en, c.2) ∧ (∀ k t, c.1[k]? = some t → tri k = nI (co_cd t)) ∧ (∀ t ∈ c.1, co_ok t) ∧ am_so c.2 ∧ am_b 4000000000 (c.1.length, st, en, c.2)
def co_fq (v : Option Value) (M : gm_V) (tri : Nat → Int32) (st : Option (Nat × Nat)) (en : Nat → Option Nat) (ar : List (Nat × Nat)) (o : Option (Nat × List co_t)) : Prop := match o with
  | none => v = some (.int (-1))
  | some y => v = some (.int (nI y.1)) ∧ co_iv M tri st en (y.2, ar) ∧ y.1 < 16
def co_bq (v : Option Value) (M : gm_V) (tri : Nat → Int32) (st : Option (Nat × Nat)) (en : Nat → Option Nat) (o : Option co_S) : Prop := match o with
  | none => v = some (.int (nI 0))
  | some c => v = some (.int (nI 1)) ∧ co_iv M tri st en c
theorem co_cd_lt {t : co_t} (h : co_ok t) : co_cd t < 1024 := by
  simp only [co_cd, co_ok] at *
  omega
theorem co_fd_at {t : co_t} {T : List co_t} {s : Nat} (h1 : T[s]? = some t) (h2 : ∀ k u, k < s → T[k]? = some u → u ≠ t) : co_fd t T = some (s, T) := by
  have : T.findIdx? (fun u => decide (u = t)) = some s := by
    obtain ⟨hs, he⟩ := List.getElem?_eq_some_iff.mp h1
    rw [List.findIdx?_eq_some_iff_getElem]
    refine ⟨hs, by simp [he], fun j hj => ?_⟩
    have := h2 j T[j] hj (List.getElem?_eq_getElem (by omega))
    simp [this]
  unfold co_fd
  rw [this]
theorem co_fd_no {t : co_t} {T : List co_t} (h2 : ∀ k u, k < T.length → T[k]? = some u → u ≠ t) : co_fd t T = if T.length < 16 then some (T.length, T ++ [t]) else none := by
  have : T.findIdx? (fun u => decide (u = t)) = none := by
    rw [List.findIdx?_eq_none_iff]
    intro u hu
    obtain ⟨k, hk⟩ := List.getElem?_of_mem hu
    have := h2 k u (List.getElem?_eq_some_iff.mp hk).1 hk
    simp [this]
  unfold co_fd
  rw [this]
set_option maxRecDepth 100000 in
set_option maxHeartbeats 4000000 in
theorem ct_Co_tripleOf (l : Launch) (D : va_G) (dA : Nat → ClassId) (ws : va_W) (p q f : Nat) (hp : p < 16) (hq : q < 16) (hf : f < 3) : gx_Ct l D dA yy_Co_tripleOf cc_Co_tripleOf 3 (some .int) 0 0 0 [.int (nI p), .int (nI q), .int (nI f)] ws (fun v w => v = some (.int (nI (co_cd (p, q, f)))) ∧ w = ws) := by
  refine gx_of (by decide) (Nat.le_of_ble_eq_true rfl) (fun K C _ _ => ?_)
  refine gx_iload_n C 0 dd_Co_tripleOf_0 (kk := ?_)
  refine gx_bipush (v := nI 6) C dd_Co_tripleOf_1 (kk := ?_)
  refine gx_ishl C dd_Co_tripleOf_3 (kk := ?_)
  refine gx_iload_n C 1 dd_Co_tripleOf_4 (kk := ?_)
  refine gx_iconst (v := nI 2) C dd_Co_tripleOf_5 (kk := ?_)
  refine gx_ishl C dd_Co_tripleOf_6 (kk := ?_)
  refine gx_ior C dd_Co_tripleOf_7 (kk := ?_)
  refine gx_iload_n C 2 dd_Co_tripleOf_8 (kk := ?_)
  refine gx_ior C dd_Co_tripleOf_9 (kk := ?_)
  refine gx_iret C dd_Co_tripleOf_10 ?_
  refine ⟨?_, rfl⟩
  rw [pk_shlN _ 6 (by decide) (by omega), pk_shlN _ 2 (by decide) (by omega), bs_or, bs_or, show (2 : Nat) ^ 6 = 64 from rfl, show (2 : Nat) ^ 2 = 4 from rfl, co_or _ hp _ hq _ (by omega)]
  rfl
set_option maxRecDepth 100000 in
set_option maxHeartbeats 4000000 in
theorem ct_Co_find (l : Launch) (D : va_G) (dA : Nat → ClassId) (ad : Nat → Nat) (mm : Nat → gm_V) (r : Nat → va_E) {ia ib im : Nat} {tri : Nat → Int32} {st : Option (Nat × Nat)} {en : Nat → Option Nat} {c : co_S} (him : im < 5) (h22 : r 22 = .inr (2, [.ref (ad (2 + 4 * ia)), .ref (ad (2 + 4 * ib)), .ref (ad (2 + 4 * im)), .ref (ad 23)])) (h23 : r 23 = .inl (dA 0, 16, .inl tri)) (hI : co_iv (mm im) tri st en c) {t : co_t} (ht : co_ok t) : gx_Ct l D dA yy_Co_find cc_Co_find 3 (some .int) 0 0 0 [.ref (ad 22), .int (nI (co_cd t))] (gx_w ad (gm_h dA ad mm r)) (fun v w => ∃ M tri2, w = (gx_w ad (gm_h dA ad (va_up mm im M) (va_up r 23 (.inl (dA 0, 16, .inl tri2))))) ∧ co_fq v M tri2 st en c.2 (co_fd t c.1)) := by
  refine gx_of (by decide) (Nat.le_of_ble_eq_true rfl) (fun K C _ _ => ?_)
  have hn16 : c.1.length ≤ 16 := hI.2.2.2.2.1
  have htl := co_cd_lt ht
  have loop : ∀ m s, s + m = c.1.length → (∀ k u, k < s → c.1[k]? = some u → u ≠ t) → gx_G K D 3 0 0 2 [(2, .int (nI s)), (0, .ref (ad 22)), (1, .int (nI (co_cd t)))] [] (gx_w ad (gm_h dA ad mm r)) (gx_Z K D dA 0 0 (fun v w => ∃ M tri2, w = (gx_w ad (gm_h dA ad (va_up mm im M) (va_up r 23 (.inl (dA 0, 16, .inl tri2))))) ∧ co_fq v M tri2 st en c.2 (co_fd t c.1))) := by
    intro m
    induction m with
    | zero =>
      intro s hs hno
      refine gx_iload_n C 0 dd_Co_find_2 (kk := ?_)
      refine gx_aload_n C 1 dd_Co_find_3 (kk := ?_)
      refine gx_get C fd_Co_22 (gm_r (by assumption)) dd_Co_find_4 (kk := ?_)
      refine gm_get C fd_Co_51 him dd_Co_find_7 (kk := ?_)
      refine gx_topi (nI c.1.length) hI.1.1 ?_
      refine gx_icmp_ge C 31 dd_Co_find_10 (fun h10 => ?_) (fun h10 => absurd (nI_le (a := c.1.length) (b := s) (by omega) (by omega)) h10)
      refine gx_aload_n C 1 dd_Co_find_31 (kk := ?_)
      refine gx_get C fd_Co_22 (gm_r (by assumption)) dd_Co_find_32 (kk := ?_)
      refine gm_get C fd_Co_51 him dd_Co_find_35 (kk := ?_)
      refine gx_topi (nI c.1.length) hI.1.1 ?_
      refine gx_bipush (v := nI 16) C dd_Co_find_38 (kk := ?_)
      refine gx_icmp_lt C 45 dd_Co_find_40 (fun h40 => ?_) (fun h40 => ?_)
      · refine gx_aload_n C 1 dd_Co_find_45 (kk := ?_)
        refine gx_get C fd_Co_9 (gm_r (by assumption)) dd_Co_find_46 (kk := ?_)
        refine gx_aload_n C 1 dd_Co_find_49 (kk := ?_)
        refine gx_get C fd_Co_22 (gm_r (by assumption)) dd_Co_find_50 (kk := ?_)
        refine gm_get C fd_Co_51 him dd_Co_find_53 (kk := ?_)
        refine gx_topi (nI c.1.length) hI.1.1 ?_
        refine gx_iload_n C 2 dd_Co_find_56 (kk := ?_)
        refine gz_iastore C h23 dd_Co_find_57 (by rw [nI_ltI (by omega) (by decide)] at h40; exact h40) (kk := fun r1 hr1 => ?_)
        rw [nI_ltI (by omega) (by decide)] at h40
        have h22b : r1 22 = .inr (2, [.ref (ad (2 + 4 * ia)), .ref (ad (2 + 4 * ib)), .ref (ad (2 + 4 * im)), .ref (ad 23)]) := by rw [hr1]; exact (gm_un (by decide)).trans h22
        refine gx_aload_n C 1 dd_Co_find_58 (kk := ?_)
        refine gx_get C fd_Co_22 (gm_r h22b) dd_Co_find_59 (kk := ?_)
        refine gx_dup C dd_Co_find_62 (kk := ?_)
        refine gm_get C fd_Co_51 him dd_Co_find_63 (kk := ?_)
        refine gx_topi (nI c.1.length) hI.1.1 ?_
        refine gx_iconst (v := nI 1) C dd_Co_find_66 (kk := ?_)
        refine gx_iadd C dd_Co_find_67 (kk := ?_)
        refine gx_topi _ (nI_add _ _) ?_
        refine gm_put_nV C fw_Co_51 him dd_Co_find_68 (kk := fun m2 e2 f2 u2 => ?_)
        refine gx_aload_n C 1 dd_Co_find_71 (kk := ?_)
        refine gx_get C fd_Co_22 (gm_r h22b) dd_Co_find_72 (kk := ?_)
        refine gm_get C fd_Co_51 him dd_Co_find_75 (kk := ?_)
        refine gx_iconst (v := nI 1) C dd_Co_find_78 (kk := ?_)
        refine gx_isub C dd_Co_find_79 (kk := ?_)
        refine gx_iret C dd_Co_find_80 ?_
        rw [show s = c.1.length by omega] at hno
        refine ⟨m2 im, upd tri c.1.length (nI (co_cd t)), ?_, ?_⟩
        · rw [← u2, hr1]
        · rw [co_fd_no hno, if_pos h40]
          refine ⟨?_, ⟨⟨?_, ?_, ?_, ?_, ?_⟩, ?_, ?_, hI.2.2.2.1, ?_⟩, h40⟩
          · rw [e2]
            show some (Value.int (nI (c.1.length + 1) - nI 1)) = _
            rw [pk_sub (by omega), Nat.add_sub_cancel]
          · rw [e2]
            show nI (c.1.length + 1) = nI (c.1 ++ [t]).length
            simp
          · rw [e2]; exact hI.1.2.1
          · rw [e2]; exact hI.1.2.2.1
          · rw [e2]; exact hI.1.2.2.2.1
          · rw [e2]; exact hI.1.2.2.2.2
          · intro k u hu
            by_cases hk : k < c.1.length
            · rw [List.getElem?_append_left hk] at hu
              rw [pk_un (by omega)]
              exact hI.2.1 k u hu
            · have hk2 : k = c.1.length := by
                have := (List.getElem?_eq_some_iff.mp hu).1
                simp at this
                omega
              subst hk2
              rw [List.getElem?_append_right (Nat.le_refl _), Nat.sub_self] at hu
              cases hu
              exact pk_us
          · intro u hu
            rcases List.mem_append.mp hu with hu | hu
            · exact hI.2.2.1 u hu
            · rw [List.mem_singleton.mp hu]; exact ht
          · exact ⟨by show (c.1 ++ [t]).length ≤ 16; simp; omega, hI.2.2.2.2.2⟩
      · refine gx_iconst (v := -1) C dd_Co_find_43 (kk := ?_)
        refine gx_iret C dd_Co_find_44 ?_
        refine ⟨mm im, tri, ?_, ?_⟩
        · rw [gm_ue, ← h23, gm_ue]
        · rw [nI_ltI (by omega) (by decide)] at h40
          rw [show s = c.1.length by omega] at hno
          rw [co_fd_no hno, if_neg h40]
          rfl
    | succ m ih =>
      intro s hs hno
      refine gx_iload_n C 0 dd_Co_find_2 (kk := ?_)
      refine gx_aload_n C 1 dd_Co_find_3 (kk := ?_)
      refine gx_get C fd_Co_22 (gm_r (by assumption)) dd_Co_find_4 (kk := ?_)
      refine gm_get C fd_Co_51 him dd_Co_find_7 (kk := ?_)
      refine gx_topi (nI c.1.length) hI.1.1 ?_
      refine gx_icmp_ge C 31 dd_Co_find_10 (fun h10 => absurd h10 (nI_ge (by omega) (by omega))) (fun h10 => ?_)
      refine gx_aload_n C 1 dd_Co_find_13 (kk := ?_)
      refine gx_get C fd_Co_9 (gm_r (by assumption)) dd_Co_find_14 (kk := ?_)
      refine gx_iload_n C 0 dd_Co_find_17 (kk := ?_)
      refine gz_iaload C h23 dd_Co_find_18 (by omega) (kk := ?_)
      obtain ⟨u, hu⟩ : ∃ u, c.1[s]? = some u := ⟨_, List.getElem?_eq_getElem (by omega)⟩
      have huk := hI.2.2.1 u (List.mem_of_getElem? hu)
      have hul := co_cd_lt huk
      refine gx_topi _ (hI.2.1 s u hu) ?_
      refine gx_iload_n C 2 dd_Co_find_19 (kk := ?_)
      refine gx_icmp_ne C 25 dd_Co_find_20 (fun h20 => ?_) (fun h20 => ?_)
      · refine gx_iinc C 0 (nI (s + 1)) _ dd_Co_find_25 (nI_1 s) (kk := ?_)
        refine gx_goto C 2 dd_Co_find_28 (kk := ?_)
        exact ih (s + 1) (by omega) (fun k u2 hk hu2 => by
          by_cases hks : k = s
          · subst hks
            rw [hu] at hu2
            cases hu2
            rw [nI_eq (by omega) (by omega)] at h20
            exact fun e => h20 (by rw [e])
          · exact hno k u2 (by omega) hu2)
      · refine gx_iload_n C 0 dd_Co_find_23 (kk := ?_)
        refine gx_iret C dd_Co_find_24 ?_
        refine ⟨mm im, tri, ?_, ?_⟩
        · rw [gm_ue, ← h23, gm_ue]
        · rw [nI_eq (by omega) (by omega)] at h20
          have he := co_cd_inj huk ht h20
          subst he
          rw [co_fd_at hu hno]
          exact ⟨rfl, hI, by omega⟩
  refine gx_iconst (v := nI 0) C dd_Co_find_0 (kk := ?_)
  refine gx_istore_n C _ dd_Co_find_1 (kk := ?_)
  exact loop c.1.length 0 (by omega) (fun k u hk => by omega)
theorem co_inb {key w B : Nat} {l : List (Nat × Nat)} (h : ∀ x ∈ l, x.1 < 16384 ∧ x.2 < B) (hk : key < 16384) (hw : w < B) {z : Nat × Nat} (hz : z ∈ am_in key w l) : z.1 < 16384 ∧ z.2 < B := by
  rcases am_in_mem hz with hz | ⟨h1, h2 | ⟨x, hx, h2⟩⟩
  · exact h z hz
  · exact ⟨by omega, by omega⟩
  · exact ⟨by omega, by rw [h2]; exact (h x hx).2⟩
set_option maxRecDepth 100000 in
set_option maxHeartbeats 4000000 in
theorem ct_Co_bring (l : Launch) (D : va_G) (dA : Nat → ClassId) (ad : Nat → Nat) (mm : Nat → gm_V) (r : Nat → va_E) {ia ib im : Nat} {tri : Nat → Int32} {st : Option (Nat × Nat)} {en : Nat → Option Nat} {c : co_S} (him : im < 5) (h22 : r 22 = .inr (2, [.ref (ad (2 + 4 * ia)), .ref (ad (2 + 4 * ib)), .ref (ad (2 + 4 * im)), .ref (ad 23)])) (h23 : r 23 = .inl (dA 0, 16, .inl tri)) (hI : co_iv (mm im) tri st en c) {s : Nat} {x : co_I} (hs : s < 16) (hx1 : x.1 < 64) (hx2 : x.2.1 < 4000000000) (hx : co_ok x.2.2) : gx_Ct l D dA yy_Co_bring cc_Co_bring 7 (some .boolean) 2 0 0 [.ref (ad 22), .int (nI s), .int (nI (co_cd x.2.2)), .int (nI x.1), .long (lN x.2.1)] (gx_w ad (gm_h dA ad mm r)) (fun v w => ∃ M tri2, w = (gx_w ad (gm_h dA ad (va_up mm im M) (va_up r 23 (.inl (dA 0, 16, .inl tri2))))) ∧ co_bq v M tri2 st en (co_br s c x)) := by
  refine gx_of (by decide) (Nat.le_of_ble_eq_true rfl) (fun K C _ _ => ?_)
  refine gx_aload_n C 0 dd_Co_bring_0 (kk := ?_)
  refine gx_iload_n C 2 dd_Co_bring_1 (kk := ?_)
  refine gx_callV C (ct_Co_find (gx_l K) D dA ad mm r him h22 h23 hI hx) me_Co_find ml_Co_39 mn_Co_find _ (gx_w_at (by decide) (gm_r h22)) rfl dd_Co_bring_2 (kk := fun v w hq => ?_)
  obtain ⟨M1, tri1, rfl, hq⟩ := hq
  have h22c : (va_up r 23 (.inl (dA 0, 16, .inl tri1))) 22 = .inr (2, [.ref (ad (2 + 4 * ia)), .ref (ad (2 + 4 * ib)), .ref (ad (2 + 4 * im)), .ref (ad 23)]) := (gm_un (by decide)).trans h22
  cases hfd : co_fd x.2.2 c.1 with
  | none =>
    rw [hfd] at hq
    have hq : v = some (.int (-1)) := hq
    subst hq
    refine gx_istore C _ dd_Co_bring_5 (kk := ?_)
    refine gx_iload C 0 dd_Co_bring_7 (kk := ?_)
    refine gx_iconst (v := -1) C dd_Co_bring_9 (kk := ?_)
    refine gx_icmp_eq C 36 dd_Co_bring_10 (fun h10 => ?_) (fun h10 => absurd rfl h10)
    refine gx_iconst (v := nI 0) C dd_Co_bring_36 (kk := ?_)
    refine gx_zret C dd_Co_bring_37 (by first | rfl | exact fb_nar) ?_
    refine ⟨M1, tri1, rfl, ?_⟩
    unfold co_br
    rw [hfd]
    rfl
  | some y =>
    rw [hfd] at hq
    obtain ⟨hv, hq, hy⟩ := hq
    subst hv
    refine gx_istore C _ dd_Co_bring_5 (kk := ?_)
    refine gx_iload C 0 dd_Co_bring_7 (kk := ?_)
    refine gx_iconst (v := -1) C dd_Co_bring_9 (kk := ?_)
    refine gx_icmp_eq C 36 dd_Co_bring_10 (fun h10 => absurd h10 (nI_m1 (by omega))) (fun h10 => ?_)
    refine gx_aload_n C 1 dd_Co_bring_13 (kk := ?_)
    refine gx_get C fd_Co_22 (gm_r h22c) dd_Co_bring_14 (kk := ?_)
    refine gx_iload_n C 2 dd_Co_bring_17 (kk := ?_)
    refine gx_iload_n C 4 dd_Co_bring_18 (kk := ?_)
    refine gx_iload C 0 dd_Co_bring_19 (kk := ?_)
    refine gx_callS C (ct_WM_keyOf (gx_l K) D dA _ s x.1 y.1 (by omega) (by omega) (by omega)) me_WM_keyOf ml_Co_76 ms_WM_keyOf dd_Co_bring_21 (kk := fun v w hq => ?_)
    obtain ⟨rfl, rfl⟩ := hq
    refine gx_lload C 5 dd_Co_bring_24 (kk := ?_)
    refine gx_callV C (ct_Ma_bring (gx_l K) D dA ad (va_up mm im M1) (va_up r 23 (.inl (dA 0, 16, .inl tri1))) (key := s * 1024 + x.1 * 16 + y.1) (x0 := x.2.1) (B := 4000000000) him (by rw [gm_us]; exact hq.1) hq.2.2.2.2 hq.2.2.2.1 (by decide) (by omega) (by omega)) me_Ma_bring ml_Co_106 mn_Ma_bring _ (gx_w_at (by omega) (gm_at (j := 0) him (by decide))) rfl dd_Co_bring_26 (kk := fun v w hq2 => ?_)
    rcases hq2 with ⟨hr, rfl, M2, rfl, hM2⟩ | ⟨hr, rfl, rfl⟩
    · refine gx_if_eq C 36 dd_Co_bring_29 (fun h29 => absurd h29 (by decide)) (fun h29 => ?_)
      refine gx_iconst (v := nI 1) C dd_Co_bring_32 (kk := ?_)
      refine gx_goto C 37 dd_Co_bring_33 (kk := ?_)
      refine gx_zret C dd_Co_bring_37 (by first | rfl | exact fb_nar) ?_
      refine ⟨M2, tri1, by rw [gm_uu], ?_⟩
      unfold co_br
      rw [hfd]
      show co_bq _ _ _ _ _ (if am_rm _ _ = true then _ else none)
      rw [if_pos hr]
      exact ⟨rfl, hM2, hq.2.1, hq.2.2.1, am_in_so hq.2.2.2.1, hq.2.2.2.2.1, am_in_len hr hq.2.2.2.2.2.1, fun z hz => co_inb (hq.2.2.2.2.2.2.1) (by omega) (by omega) hz, hq.2.2.2.2.2.2.2⟩
    · refine gx_if_eq C 36 dd_Co_bring_29 (fun h29 => ?_) (fun h29 => absurd rfl h29)
      refine gx_iconst (v := nI 0) C dd_Co_bring_36 (kk := ?_)
      refine gx_zret C dd_Co_bring_37 (by first | rfl | exact fb_nar) ?_
      refine ⟨M1, tri1, rfl, ?_⟩
      unfold co_br
      rw [hfd]
      show co_bq _ _ _ _ _ (if am_rm _ _ = true then _ else none)
      rw [if_neg (by rw [hr]; decide)]
      rfl
