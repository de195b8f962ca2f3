theorem dd_Te_codeAt_0 : decode cc_Te_codeAt 0 = .ok (.iload_n 1, 1) := by decide +kernel
theorem dd_Te_codeAt_1 : decode cc_Te_codeAt 1 = .ok (.ifCond .lt 20, 3) := by decide +kernel
theorem dd_Te_codeAt_4 : decode cc_Te_codeAt 4 = .ok (.iload_n 1, 1) := by decide +kernel
theorem dd_Te_codeAt_5 : decode cc_Te_codeAt 5 = .ok (.aload_n 0, 1) := by decide +kernel
theorem dd_Te_codeAt_6 : decode cc_Te_codeAt 6 = .ok (.getfield 15, 3) := by decide +kernel
theorem dd_Te_codeAt_9 : decode cc_Te_codeAt 9 = .ok (.if_icmp .ge 12, 3) := by decide +kernel
theorem dd_Te_codeAt_12 : decode cc_Te_codeAt 12 = .ok (.aload_n 0, 1) := by decide +kernel
theorem dd_Te_codeAt_13 : decode cc_Te_codeAt 13 = .ok (.getfield 9, 3) := by decide +kernel
theorem dd_Te_codeAt_16 : decode cc_Te_codeAt 16 = .ok (.iload_n 1, 1) := by decide +kernel
theorem dd_Te_codeAt_17 : decode cc_Te_codeAt 17 = .ok (.caload, 1) := by decide +kernel
theorem dd_Te_codeAt_18 : decode cc_Te_codeAt 18 = .ok (.goto 4, 3) := by decide +kernel
theorem dd_Te_codeAt_21 : decode cc_Te_codeAt 21 = .ok (.iconst (-1), 1) := by decide +kernel
theorem dd_Te_codeAt_22 : decode cc_Te_codeAt 22 = .ok (.ireturn, 1) := by decide +kernel
theorem dd_Te_put_0 : decode cc_Te_put 0 = .ok (.aload_n 0, 1) := by decide +kernel
theorem dd_Te_put_1 : decode cc_Te_put 1 = .ok (.getfield 15, 3) := by decide +kernel
theorem dd_Te_put_4 : decode cc_Te_put 4 = .ok (.sipush 1600, 3) := by decide +kernel
theorem dd_Te_put_7 : decode cc_Te_put 7 = .ok (.if_icmp .ge 24, 3) := by decide +kernel
theorem dd_Te_put_10 : decode cc_Te_put 10 = .ok (.aload_n 0, 1) := by decide +kernel
theorem dd_Te_put_11 : decode cc_Te_put 11 = .ok (.getfield 9, 3) := by decide +kernel
theorem dd_Te_put_14 : decode cc_Te_put 14 = .ok (.aload_n 0, 1) := by decide +kernel
theorem dd_Te_put_15 : decode cc_Te_put 15 = .ok (.getfield 15, 3) := by decide +kernel
theorem dd_Te_put_18 : decode cc_Te_put 18 = .ok (.iload_n 1, 1) := by decide +kernel
theorem dd_Te_put_19 : decode cc_Te_put 19 = .ok (.i2c, 1) := by decide +kernel
theorem dd_Te_put_20 : decode cc_Te_put 20 = .ok (.castore, 1) := by decide +kernel
theorem dd_Te_put_21 : decode cc_Te_put 21 = .ok (.aload_n 0, 1) := by decide +kernel
theorem dd_Te_put_22 : decode cc_Te_put 22 = .ok (.dup, 1) := by decide +kernel
theorem dd_Te_put_23 : decode cc_Te_put 23 = .ok (.getfield 15, 3) := by decide +kernel
theorem dd_Te_put_26 : decode cc_Te_put 26 = .ok (.iconst 1, 1) := by decide +kernel
theorem dd_Te_put_27 : decode cc_Te_put 27 = .ok (.iadd, 1) := by decide +kernel
theorem dd_Te_put_28 : decode cc_Te_put 28 = .ok (.putfield 15, 3) := by decide +kernel
theorem dd_Te_put_31 : decode cc_Te_put 31 = .ok (.return_, 1) := by decide +kernel
theorem dd_Te_putNumber_0 : decode cc_Te_putNumber 0 = .ok (.lconst 1, 1) := by decide +kernel
theorem dd_Te_putNumber_1 : decode cc_Te_putNumber 1 = .ok (.lstore_n 3, 1) := by decide +kernel
theorem dd_Te_putNumber_2 : decode cc_Te_putNumber 2 = .ok (.iconst 1, 1) := by decide +kernel
theorem dd_Te_putNumber_3 : decode cc_Te_putNumber 3 = .ok (.istore 5, 2) := by decide +kernel
theorem dd_Te_putNumber_5 : decode cc_Te_putNumber 5 = .ok (.iload 5, 2) := by decide +kernel
theorem dd_Te_putNumber_7 : decode cc_Te_putNumber 7 = .ok (.bipush 10, 2) := by decide +kernel
theorem dd_Te_putNumber_9 : decode cc_Te_putNumber 9 = .ok (.if_icmp .ge 25, 3) := by decide +kernel
theorem dd_Te_putNumber_12 : decode cc_Te_putNumber 12 = .ok (.lload_n 3, 1) := by decide +kernel
theorem dd_Te_putNumber_13 : decode cc_Te_putNumber 13 = .ok (.ldc2_w 19, 3) := by decide +kernel
theorem dd_Te_putNumber_16 : decode cc_Te_putNumber 16 = .ok (.lmul, 1) := by decide +kernel
theorem dd_Te_putNumber_17 : decode cc_Te_putNumber 17 = .ok (.lload_n 1, 1) := by decide +kernel
theorem dd_Te_putNumber_18 : decode cc_Te_putNumber 18 = .ok (.lcmp, 1) := by decide +kernel
theorem dd_Te_putNumber_19 : decode cc_Te_putNumber 19 = .ok (.ifCond .gt 15, 3) := by decide +kernel
theorem dd_Te_putNumber_22 : decode cc_Te_putNumber 22 = .ok (.lload_n 3, 1) := by decide +kernel
theorem dd_Te_putNumber_23 : decode cc_Te_putNumber 23 = .ok (.ldc2_w 19, 3) := by decide +kernel
theorem dd_Te_putNumber_26 : decode cc_Te_putNumber 26 = .ok (.lmul, 1) := by decide +kernel
theorem dd_Te_putNumber_27 : decode cc_Te_putNumber 27 = .ok (.lstore_n 3, 1) := by decide +kernel
theorem dd_Te_putNumber_28 : decode cc_Te_putNumber 28 = .ok (.iinc 5 1, 3) := by decide +kernel
theorem dd_Te_putNumber_31 : decode cc_Te_putNumber 31 = .ok (.goto (-26), 3) := by decide +kernel
theorem dd_Te_putNumber_34 : decode cc_Te_putNumber 34 = .ok (.lload_n 3, 1) := by decide +kernel
theorem dd_Te_putNumber_35 : decode cc_Te_putNumber 35 = .ok (.lconst 0, 1) := by decide +kernel
theorem dd_Te_putNumber_36 : decode cc_Te_putNumber 36 = .ok (.lcmp, 1) := by decide +kernel
theorem dd_Te_putNumber_37 : decode cc_Te_putNumber 37 = .ok (.ifCond .le 27, 3) := by decide +kernel
theorem dd_Te_putNumber_40 : decode cc_Te_putNumber 40 = .ok (.aload_n 0, 1) := by decide +kernel
theorem dd_Te_putNumber_41 : decode cc_Te_putNumber 41 = .ok (.bipush 48, 2) := by decide +kernel
theorem dd_Te_putNumber_43 : decode cc_Te_putNumber 43 = .ok (.lload_n 1, 1) := by decide +kernel
theorem dd_Te_putNumber_44 : decode cc_Te_putNumber 44 = .ok (.lload_n 3, 1) := by decide +kernel
theorem dd_Te_putNumber_45 : decode cc_Te_putNumber 45 = .ok (.ldiv, 1) := by decide +kernel
theorem dd_Te_putNumber_46 : decode cc_Te_putNumber 46 = .ok (.ldc2_w 19, 3) := by decide +kernel
theorem dd_Te_putNumber_49 : decode cc_Te_putNumber 49 = .ok (.lrem, 1) := by decide +kernel
theorem dd_Te_putNumber_50 : decode cc_Te_putNumber 50 = .ok (.l2i, 1) := by decide +kernel
theorem dd_Te_putNumber_51 : decode cc_Te_putNumber 51 = .ok (.iadd, 1) := by decide +kernel
theorem dd_Te_putNumber_52 : decode cc_Te_putNumber 52 = .ok (.invokevirtual 21, 3) := by decide +kernel
theorem dd_Te_putNumber_55 : decode cc_Te_putNumber 55 = .ok (.lload_n 3, 1) := by decide +kernel
theorem dd_Te_putNumber_56 : decode cc_Te_putNumber 56 = .ok (.ldc2_w 19, 3) := by decide +kernel
theorem dd_Te_putNumber_59 : decode cc_Te_putNumber 59 = .ok (.ldiv, 1) := by decide +kernel
theorem dd_Te_putNumber_60 : decode cc_Te_putNumber 60 = .ok (.lstore_n 3, 1) := by decide +kernel
theorem dd_Te_putNumber_61 : decode cc_Te_putNumber 61 = .ok (.goto (-27), 3) := by decide +kernel
theorem dd_Te_putNumber_64 : decode cc_Te_putNumber 64 = .ok (.return_, 1) := by decide +kernel
theorem dd_Te_putWeight_0 : decode cc_Te_putWeight 0 = .ok (.aload_n 0, 1) := by decide +kernel
theorem dd_Te_putWeight_1 : decode cc_Te_putWeight 1 = .ok (.bipush 47, 2) := by decide +kernel
theorem dd_Te_putWeight_3 : decode cc_Te_putWeight 3 = .ok (.invokevirtual 21, 3) := by decide +kernel
theorem dd_Te_putWeight_6 : decode cc_Te_putWeight 6 = .ok (.aload_n 0, 1) := by decide +kernel
theorem dd_Te_putWeight_7 : decode cc_Te_putWeight 7 = .ok (.lload_n 1, 1) := by decide +kernel
theorem dd_Te_putWeight_8 : decode cc_Te_putWeight 8 = .ok (.invokevirtual 25, 3) := by decide +kernel
theorem dd_Te_putWeight_11 : decode cc_Te_putWeight 11 = .ok (.aload_n 0, 1) := by decide +kernel
theorem dd_Te_putWeight_12 : decode cc_Te_putWeight 12 = .ok (.bipush 59, 2) := by decide +kernel
theorem dd_Te_putWeight_14 : decode cc_Te_putWeight 14 = .ok (.invokevirtual 21, 3) := by decide +kernel
theorem dd_Te_putWeight_17 : decode cc_Te_putWeight 17 = .ok (.return_, 1) := by decide +kernel
theorem dd_Te_putStateWeight_0 : decode cc_Te_putStateWeight 0 = .ok (.aload_n 0, 1) := by decide +kernel
theorem dd_Te_putStateWeight_1 : decode cc_Te_putStateWeight 1 = .ok (.iload_n 1, 1) := by decide +kernel
theorem dd_Te_putStateWeight_2 : decode cc_Te_putStateWeight 2 = .ok (.invokevirtual 21, 3) := by decide +kernel
theorem dd_Te_putStateWeight_5 : decode cc_Te_putStateWeight 5 = .ok (.aload_n 0, 1) := by decide +kernel
theorem dd_Te_putStateWeight_6 : decode cc_Te_putStateWeight 6 = .ok (.iload_n 2, 1) := by decide +kernel
theorem dd_Te_putStateWeight_7 : decode cc_Te_putStateWeight 7 = .ok (.i2l, 1) := by decide +kernel
theorem dd_Te_putStateWeight_8 : decode cc_Te_putStateWeight 8 = .ok (.invokevirtual 25, 3) := by decide +kernel
theorem dd_Te_putStateWeight_11 : decode cc_Te_putStateWeight 11 = .ok (.aload_n 0, 1) := by decide +kernel
theorem dd_Te_putStateWeight_12 : decode cc_Te_putStateWeight 12 = .ok (.lload_n 3, 1) := by decide +kernel
theorem dd_Te_putStateWeight_13 : decode cc_Te_putStateWeight 13 = .ok (.invokevirtual 29, 3) := by decide +kernel
theorem dd_Te_putStateWeight_16 : decode cc_Te_putStateWeight 16 = .ok (.return_, 1) := by decide +kernel
theorem dd_Te_putArc_0 : decode cc_Te_putArc 0 = .ok (.aload_n 0, 1) := by decide +kernel
theorem dd_Te_putArc_1 : decode cc_Te_putArc 1 = .ok (.iload_n 1, 1) := by decide +kernel
theorem dd_Te_putArc_2 : decode cc_Te_putArc 2 = .ok (.invokestatic 32, 3) := by decide +kernel
theorem dd_Te_putArc_5 : decode cc_Te_putArc 5 = .ok (.i2l, 1) := by decide +kernel
theorem dd_Te_putArc_6 : decode cc_Te_putArc 6 = .ok (.invokevirtual 25, 3) := by decide +kernel
theorem dd_Te_putArc_9 : decode cc_Te_putArc 9 = .ok (.aload_n 0, 1) := by decide +kernel
theorem dd_Te_putArc_10 : decode cc_Te_putArc 10 = .ok (.bipush 45, 2) := by decide +kernel
theorem dd_Te_putArc_12 : decode cc_Te_putArc 12 = .ok (.invokevirtual 21, 3) := by decide +kernel
theorem dd_Te_putArc_15 : decode cc_Te_putArc 15 = .ok (.aload_n 0, 1) := by decide +kernel
theorem dd_Te_putArc_16 : decode cc_Te_putArc 16 = .ok (.iload_n 1, 1) := by decide +kernel
theorem dd_Te_putArc_17 : decode cc_Te_putArc 17 = .ok (.invokestatic 36, 3) := by decide +kernel
theorem dd_Te_putArc_20 : decode cc_Te_putArc 20 = .ok (.i2l, 1) := by decide +kernel
theorem dd_Te_putArc_21 : decode cc_Te_putArc 21 = .ok (.invokevirtual 25, 3) := by decide +kernel
theorem dd_Te_putArc_24 : decode cc_Te_putArc 24 = .ok (.aload_n 0, 1) := by decide +kernel
theorem dd_Te_putArc_25 : decode cc_Te_putArc 25 = .ok (.bipush 58, 2) := by decide +kernel
theorem dd_Te_putArc_27 : decode cc_Te_putArc 27 = .ok (.invokevirtual 21, 3) := by decide +kernel
theorem dd_Te_putArc_30 : decode cc_Te_putArc 30 = .ok (.aload_n 0, 1) := by decide +kernel
theorem dd_Te_putArc_31 : decode cc_Te_putArc 31 = .ok (.iload_n 1, 1) := by decide +kernel
theorem dd_Te_putArc_32 : decode cc_Te_putArc 32 = .ok (.invokestatic 39, 3) := by decide +kernel
theorem dd_Te_putArc_35 : decode cc_Te_putArc 35 = .ok (.i2l, 1) := by decide +kernel
theorem dd_Te_putArc_36 : decode cc_Te_putArc 36 = .ok (.invokevirtual 25, 3) := by decide +kernel
theorem dd_Te_putArc_39 : decode cc_Te_putArc 39 = .ok (.aload_n 0, 1) := by decide +kernel
theorem dd_Te_putArc_40 : decode cc_Te_putArc 40 = .ok (.iload_n 1, 1) := by decide +kernel
theorem dd_Te_putArc_41 : decode cc_Te_putArc 41 = .ok (.invokestatic 42, 3) := by decide +kernel
theorem dd_Te_putArc_44 : decode cc_Te_putArc 44 = .ok (.i2l, 1) := by decide +kernel
theorem dd_Te_putArc_45 : decode cc_Te_putArc 45 = .ok (.invokevirtual 25, 3) := by decide +kernel
theorem dd_Te_putArc_48 : decode cc_Te_putArc 48 = .ok (.aload_n 0, 1) := by decide +kernel
theorem dd_Te_putArc_49 : decode cc_Te_putArc 49 = .ok (.lload_n 2, 1) := by decide +kernel
theorem dd_Te_putArc_50 : decode cc_Te_putArc 50 = .ok (.invokevirtual 29, 3) := by decide +kernel
theorem dd_Te_putArc_53 : decode cc_Te_putArc 53 = .ok (.return_, 1) := by decide +kernel
theorem dd_Te_tell_0 : decode cc_Te_tell 0 = .ok (.aload_n 0, 1) := by decide +kernel
theorem dd_Te_tell_1 : decode cc_Te_tell 1 = .ok (.iconst 0, 1) := by decide +kernel
theorem dd_Te_tell_2 : decode cc_Te_tell 2 = .ok (.putfield 15, 3) := by decide +kernel
theorem dd_Te_tell_5 : decode cc_Te_tell 5 = .ok (.aload_n 0, 1) := by decide +kernel
theorem dd_Te_tell_6 : decode cc_Te_tell 6 = .ok (.bipush 110, 2) := by decide +kernel
theorem dd_Te_tell_8 : decode cc_Te_tell 8 = .ok (.invokevirtual 21, 3) := by decide +kernel
theorem dd_Te_tell_11 : decode cc_Te_tell 11 = .ok (.aload_n 0, 1) := by decide +kernel
theorem dd_Te_tell_12 : decode cc_Te_tell 12 = .ok (.aload_n 1, 1) := by decide +kernel
theorem dd_Te_tell_13 : decode cc_Te_tell 13 = .ok (.getfield 45, 3) := by decide +kernel
theorem dd_Te_tell_16 : decode cc_Te_tell 16 = .ok (.i2l, 1) := by decide +kernel
theorem dd_Te_tell_17 : decode cc_Te_tell 17 = .ok (.invokevirtual 25, 3) := by decide +kernel
theorem dd_Te_tell_20 : decode cc_Te_tell 20 = .ok (.aload_n 0, 1) := by decide +kernel
theorem dd_Te_tell_21 : decode cc_Te_tell 21 = .ok (.bipush 59, 2) := by decide +kernel
theorem dd_Te_tell_23 : decode cc_Te_tell 23 = .ok (.invokevirtual 21, 3) := by decide +kernel
theorem dd_Te_tell_26 : decode cc_Te_tell 26 = .ok (.aload_n 1, 1) := by decide +kernel
theorem dd_Te_tell_27 : decode cc_Te_tell 27 = .ok (.getfield 50, 3) := by decide +kernel
theorem dd_Te_tell_30 : decode cc_Te_tell 30 = .ok (.iconst (-1), 1) := by decide +kernel
theorem dd_Te_tell_31 : decode cc_Te_tell 31 = .ok (.if_icmp .eq 17, 3) := by decide +kernel
theorem dd_Te_tell_34 : decode cc_Te_tell 34 = .ok (.aload_n 0, 1) := by decide +kernel
theorem dd_Te_tell_35 : decode cc_Te_tell 35 = .ok (.bipush 115, 2) := by decide +kernel
theorem dd_Te_tell_37 : decode cc_Te_tell 37 = .ok (.aload_n 1, 1) := by decide +kernel
theorem dd_Te_tell_38 : decode cc_Te_tell 38 = .ok (.getfield 50, 3) := by decide +kernel
theorem dd_Te_tell_41 : decode cc_Te_tell 41 = .ok (.aload_n 1, 1) := by decide +kernel
theorem dd_Te_tell_42 : decode cc_Te_tell 42 = .ok (.getfield 53, 3) := by decide +kernel
theorem dd_Te_tell_45 : decode cc_Te_tell 45 = .ok (.invokevirtual 57, 3) := by decide +kernel
theorem dd_Te_tell_48 : decode cc_Te_tell 48 = .ok (.iconst 0, 1) := by decide +kernel
theorem dd_Te_tell_49 : decode cc_Te_tell 49 = .ok (.istore_n 2, 1) := by decide +kernel
theorem dd_Te_tell_50 : decode cc_Te_tell 50 = .ok (.iload_n 2, 1) := by decide +kernel
theorem dd_Te_tell_51 : decode cc_Te_tell 51 = .ok (.aload_n 1, 1) := by decide +kernel
theorem dd_Te_tell_52 : decode cc_Te_tell 52 = .ok (.getfield 45, 3) := by decide +kernel
theorem dd_Te_tell_55 : decode cc_Te_tell 55 = .ok (.if_icmp .ge 35, 3) := by decide +kernel
theorem dd_Te_tell_58 : decode cc_Te_tell 58 = .ok (.aload_n 1, 1) := by decide +kernel
theorem dd_Te_tell_59 : decode cc_Te_tell 59 = .ok (.getfield 61, 3) := by decide +kernel
theorem dd_Te_tell_62 : decode cc_Te_tell 62 = .ok (.iload_n 2, 1) := by decide +kernel
theorem dd_Te_tell_63 : decode cc_Te_tell 63 = .ok (.laload, 1) := by decide +kernel
theorem dd_Te_tell_64 : decode cc_Te_tell 64 = .ok (.ldc2_w 65, 3) := by decide +kernel
theorem dd_Te_tell_67 : decode cc_Te_tell 67 = .ok (.lcmp, 1) := by decide +kernel
theorem dd_Te_tell_68 : decode cc_Te_tell 68 = .ok (.ifCond .eq 16, 3) := by decide +kernel
theorem dd_Te_tell_71 : decode cc_Te_tell 71 = .ok (.aload_n 0, 1) := by decide +kernel
theorem dd_Te_tell_72 : decode cc_Te_tell 72 = .ok (.bipush 102, 2) := by decide +kernel
theorem dd_Te_tell_74 : decode cc_Te_tell 74 = .ok (.iload_n 2, 1) := by decide +kernel
theorem dd_Te_tell_75 : decode cc_Te_tell 75 = .ok (.aload_n 1, 1) := by decide +kernel
theorem dd_Te_tell_76 : decode cc_Te_tell 76 = .ok (.getfield 61, 3) := by decide +kernel
theorem dd_Te_tell_79 : decode cc_Te_tell 79 = .ok (.iload_n 2, 1) := by decide +kernel
theorem dd_Te_tell_80 : decode cc_Te_tell 80 = .ok (.laload, 1) := by decide +kernel
theorem dd_Te_tell_81 : decode cc_Te_tell 81 = .ok (.invokevirtual 57, 3) := by decide +kernel
theorem dd_Te_tell_84 : decode cc_Te_tell 84 = .ok (.iinc 2 1, 3) := by decide +kernel
theorem dd_Te_tell_87 : decode cc_Te_tell 87 = .ok (.goto (-37), 3) := by decide +kernel
theorem dd_Te_tell_90 : decode cc_Te_tell 90 = .ok (.iconst 0, 1) := by decide +kernel
theorem dd_Te_tell_91 : decode cc_Te_tell 91 = .ok (.istore_n 2, 1) := by decide +kernel
theorem dd_Te_tell_92 : decode cc_Te_tell 92 = .ok (.iload_n 2, 1) := by decide +kernel
theorem dd_Te_tell_93 : decode cc_Te_tell 93 = .ok (.aload_n 1, 1) := by decide +kernel
theorem dd_Te_tell_94 : decode cc_Te_tell 94 = .ok (.getfield 67, 3) := by decide +kernel
theorem dd_Te_tell_97 : decode cc_Te_tell 97 = .ok (.if_icmp .ge 25, 3) := by decide +kernel
theorem dd_Te_tell_100 : decode cc_Te_tell 100 = .ok (.aload_n 0, 1) := by decide +kernel
theorem dd_Te_tell_101 : decode cc_Te_tell 101 = .ok (.aload_n 1, 1) := by decide +kernel
theorem dd_Te_tell_102 : decode cc_Te_tell 102 = .ok (.getfield 70, 3) := by decide +kernel
theorem dd_Te_tell_105 : decode cc_Te_tell 105 = .ok (.iload_n 2, 1) := by decide +kernel
theorem dd_Te_tell_106 : decode cc_Te_tell 106 = .ok (.iaload, 1) := by decide +kernel
theorem dd_Te_tell_107 : decode cc_Te_tell 107 = .ok (.aload_n 1, 1) := by decide +kernel
theorem dd_Te_tell_108 : decode cc_Te_tell 108 = .ok (.getfield 74, 3) := by decide +kernel
theorem dd_Te_tell_111 : decode cc_Te_tell 111 = .ok (.iload_n 2, 1) := by decide +kernel
theorem dd_Te_tell_112 : decode cc_Te_tell 112 = .ok (.laload, 1) := by decide +kernel
theorem dd_Te_tell_113 : decode cc_Te_tell 113 = .ok (.invokevirtual 77, 3) := by decide +kernel
theorem dd_Te_tell_116 : decode cc_Te_tell 116 = .ok (.iinc 2 1, 3) := by decide +kernel
theorem dd_Te_tell_119 : decode cc_Te_tell 119 = .ok (.goto (-27), 3) := by decide +kernel
theorem dd_Te_tell_122 : decode cc_Te_tell 122 = .ok (.return_, 1) := by decide +kernel
/-! THE TEXT -/
def te_at (dA : Nat → ClassId) (ad : Nat → Nat) (r : Nat → va_E) (X : List Nat) : Prop := r 40 = .inr (8, [.int (nI X.length), .ref (ad 41)]) ∧ (∃ f, r 41 = .inl (dA 2, 1600, .inl f) ∧ ∀ j c, X[j]? = some c → f j = nI c) ∧ X.length ≤ 1600 ∧ ∀ c ∈ X, c < 65536
def te_pt (X : List Nat) (c : Nat) : List Nat := if X.length < 1600 then X ++ [c] else X
def te_ps (X L : List Nat) : List Nat := L.foldl te_pt X
theorem te_ps_app (X A B : List Nat) : te_ps X (A ++ B) = te_ps (te_ps X A) B := by
  unfold te_ps
  rw [List.foldl_append]
def te_u (n : Nat) : Nat → Nat → Nat
  | 0, u => u
  | m + 1, u => if u * 10 ≤ n then te_u n m (u * 10) else u
def te_ds (n : Nat) : Nat → Nat → List Nat
  | 0, _ => []
  | m + 1, u => if u = 0 then [] else (48 + n / u % 10) :: te_ds n m (u / 10)
def te_num (n : Nat) : List Nat := te_ds n 11 (te_u n 9 1)
def te_wt (w : Nat) : List Nat := [47] ++ (te_num w ++ [59])
def te_sw (k q w : Nat) : List Nat := [k] ++ (te_num q ++ te_wt w)
def te_ar (x : Nat × Nat) : List Nat := te_num (x.1 / 1024) ++ ([45] ++ (te_num (x.1 % 16) ++ ([58] ++ (te_num (x.1 / 128 % 8) ++ (te_num (x.1 / 16 % 8) ++ te_wt x.2)))))
def te_st (o : Option (Nat × Nat)) : List Nat := match o with
  | none => []
  | some x => te_sw 115 x.1 x.2
def te_en (q : Nat) (o : Option Nat) : List Nat := match o with
  | none => []
  | some e => te_sw 102 q e
def te_es (en : Nat → Option Nat) : Nat → List Nat
  | 0 => []
  | k + 1 => te_es en k ++ te_en k (en k)
def te_as (l : List (Nat × Nat)) (k : Nat) : List Nat := (l.take k).flatMap te_ar
def te_all (a : am_T) : List Nat := [110] ++ (te_num (am_n a) ++ ([59] ++ (te_st (am_st a) ++ (te_es (am_en a) (am_n a) ++ te_as (am_ar a) (am_ar a).length))))
theorem te_as_s {l : List (Nat × Nat)} {k : Nat} {x : Nat × Nat} (h : l[k]? = some x) : te_as l (k + 1) = te_as l k ++ te_ar x := by
  unfold te_as
  rw [List.take_add_one, h]
  simp
theorem te_i2c {c : Nat} (h : c < 65536) : vp_nar .char ((nI c).toUInt32 % 65536).toInt32 = nI c := by
  rw [pk_vc, pk_char, pk_tn (by omega), Nat.mod_eq_of_lt h]
theorem te_u_le (n : Nat) : ∀ m u, te_u n m u ≤ u * 10 ^ m
  | 0, u => by unfold te_u; omega
  | m + 1, u => by
    unfold te_u
    split
    · have := te_u_le n m (u * 10)
      rw [Nat.pow_succ, Nat.mul_comm (10 ^ m) 10, ← Nat.mul_assoc]
      exact this
    · have : 1 ≤ 10 ^ (m + 1) := Nat.pos_of_ne_zero (by simp)
      exact Nat.le_mul_of_pos_right u this
set_option maxRecDepth 100000 in
set_option maxHeartbeats 4000000 in
theorem ct_Te_codeAt (l : Launch) (D : va_G) (dA : Nat → ClassId) (ad : Nat → Nat) (mm : Nat → gm_V) (r : Nat → va_E) {X : List Nat} (hX : te_at dA ad r X) {k : Nat} (hk : k < 2 ^ 31) : gx_Ct l D dA yy_Te_codeAt cc_Te_codeAt 2 (some .int) 0 0 0 [.ref (ad 40), .int (nI k)] (gx_w ad (gm_h dA ad mm r)) (fun v w => v = some (.int (on_r X[k]?)) ∧ w = (gx_w ad (gm_h dA ad mm r))) := by
  refine gx_of (by decide) (Nat.le_of_ble_eq_true rfl) (fun K C _ _ => ?_)
  have hl16 := hX.2.2.1
  obtain ⟨f, hf41, hfl⟩ := hX.2.1
  refine gx_iload_n C 1 dd_Te_codeAt_0 (kk := ?_)
  refine gx_if_lt C 21 dd_Te_codeAt_1 (fun h1 => absurd h1 (nI_pos (by omega))) (fun h1 => ?_)
  refine gx_iload_n C 1 dd_Te_codeAt_4 (kk := ?_)
  refine gx_aload_n C 0 dd_Te_codeAt_5 (kk := ?_)
  refine gx_get C fd_Te_15 (gm_r hX.1) dd_Te_codeAt_6 (kk := ?_)
  refine gx_icmp_ge C 21 dd_Te_codeAt_9 (fun h9 => ?_) (fun h9 => ?_)
  · refine gx_iconst (v := -1) C dd_Te_codeAt_21 (kk := ?_)
    refine gx_iret C dd_Te_codeAt_22 ?_
    refine ⟨?_, rfl⟩
    rw [nI_leI (by omega) (by omega)] at h9
    rw [List.getElem?_eq_none (by omega)]
    rfl
  · have h9b : k < X.length := by
      rw [nI_leI (by omega) (by omega)] at h9
      omega
    refine gx_aload_n C 0 dd_Te_codeAt_12 (kk := ?_)
    refine gx_get C fd_Te_9 (gm_r hX.1) dd_Te_codeAt_13 (kk := ?_)
    refine gx_iload_n C 1 dd_Te_codeAt_16 (kk := ?_)
    obtain ⟨c, hc⟩ : ∃ c, X[k]? = some c := ⟨_, List.getElem?_eq_getElem h9b⟩
    refine gz_caload C hf41 dd_Te_codeAt_17 (by omega) (kk := ?_)
    refine gx_topi _ (hfl k c hc) ?_
    refine gx_goto C 22 dd_Te_codeAt_18 (kk := ?_)
    refine gx_iret C dd_Te_codeAt_22 ?_
    refine ⟨?_, rfl⟩
    rw [hc]
    rfl
set_option maxRecDepth 100000 in
set_option maxHeartbeats 4000000 in
theorem ct_Te_codeAtN (l : Launch) (D : va_G) (dA : Nat → ClassId) (ad : Nat → Nat) (mm : Nat → gm_V) (r : Nat → va_E) {X : List Nat} (hX : te_at dA ad r X) {x : Int32} (hneg : x < 0) : gx_Ct l D dA yy_Te_codeAt cc_Te_codeAt 2 (some .int) 0 0 0 [.ref (ad 40), .int x] (gx_w ad (gm_h dA ad mm r)) (fun v w => v = some (.int (-1)) ∧ w = (gx_w ad (gm_h dA ad mm r))) := by
  refine gx_of (by decide) (Nat.le_of_ble_eq_true rfl) (fun K C _ _ => ?_)
  refine gx_iload_n C 1 dd_Te_codeAt_0 (kk := ?_)
  refine gx_if_lt C 21 dd_Te_codeAt_1 (fun h1 => ?_) (fun h1 => absurd hneg h1)
  refine gx_iconst (v := -1) C dd_Te_codeAt_21 (kk := ?_)
  refine gx_iret C dd_Te_codeAt_22 ?_
  exact ⟨rfl, rfl⟩
set_option maxRecDepth 100000 in
set_option maxHeartbeats 4000000 in
theorem ct_Te_put (l : Launch) (D : va_G) (dA : Nat → ClassId) (ad : Nat → Nat) (mm : Nat → gm_V) (r : Nat → va_E) {X : List Nat} (hX : te_at dA ad r X) {c : Nat} (hc : c < 65536) : gx_Ct l D dA yy_Te_put cc_Te_put 2 none 0 0 0 [.ref (ad 40), .int (nI c)] (gx_w ad (gm_h dA ad mm r)) (fun v w => v = none ∧ ∃ r2, w = gx_w ad (gm_h dA ad mm r2) ∧ te_at dA ad r2 (te_ps X ([c])) ∧ ∀ k, k ≠ 40 → k ≠ 41 → r2 k = r k) := by
  refine gx_of (by decide) (Nat.le_of_ble_eq_true rfl) (fun K C _ _ => ?_)
  have hl16 := hX.2.2.1
  obtain ⟨f, hf41, hfl⟩ := hX.2.1
  refine gx_aload_n C 0 dd_Te_put_0 (kk := ?_)
  refine gx_get C fd_Te_15 (gm_r hX.1) dd_Te_put_1 (kk := ?_)
  refine gx_sipush (v := nI 1600) C dd_Te_put_4 (kk := ?_)
  refine gx_icmp_ge C 31 dd_Te_put_7 (fun h7 => ?_) (fun h7 => ?_)
  · refine gx_vret C dd_Te_put_31 ?_
    rw [nI_leI (by decide) (by omega)] at h7
    refine ⟨rfl, r, rfl, ?_, fun k _ _ => rfl⟩
    show te_at dA ad r (te_pt X c)
    rw [te_pt, if_neg (by omega)]
    exact hX
  · replace h7 : X.length < 1600 := by
      rw [nI_leI (by decide) (by omega)] at h7
      omega
    refine gx_aload_n C 0 dd_Te_put_10 (kk := ?_)
    refine gx_get C fd_Te_9 (gm_r hX.1) dd_Te_put_11 (kk := ?_)
    refine gx_aload_n C 0 dd_Te_put_14 (kk := ?_)
    refine gx_get C fd_Te_15 (gm_r hX.1) dd_Te_put_15 (kk := ?_)
    refine gx_iload_n C 1 dd_Te_put_18 (kk := ?_)
    refine gx_i2c C dd_Te_put_19 (kk := ?_)
    refine gz_castore C hf41 dd_Te_put_20 h7 (kk := fun r1 hr1 => ?_)
    have h40b : r1 40 = .inr (8, [.int (nI X.length), .ref (ad 41)]) := by rw [hr1]; exact (gm_un (by decide)).trans hX.1
    refine gx_aload_n C 0 dd_Te_put_21 (kk := ?_)
    refine gx_dup C dd_Te_put_22 (kk := ?_)
    refine gx_get C fd_Te_15 (gm_r h40b) dd_Te_put_23 (kk := ?_)
    refine gx_iconst (v := nI 1) C dd_Te_put_26 (kk := ?_)
    refine gx_iadd C dd_Te_put_27 (kk := ?_)
    refine gx_topi _ (nI_add _ _) ?_
    refine gz_put C fw_Te_15 h40b dd_Te_put_28 (kk := fun r2 hr2 => ?_)
    refine gx_vret C dd_Te_put_31 ?_
    refine ⟨rfl, r2, rfl, ?_, fun k h1 h2 => by rw [hr2, gm_un h1, hr1, gm_un h2]⟩
    show te_at dA ad r2 (te_pt X c)
    rw [te_pt, if_pos h7]
    refine ⟨by rw [hr2, gm_us]; simp, ⟨upd f X.length (nI c), by rw [hr2, gm_un (by decide), hr1, gm_us, te_i2c hc], fun j d hd => ?_⟩, by simp; omega, fun d hd => ?_⟩
    · by_cases hj : j < X.length
      · rw [List.getElem?_append_left hj] at hd
        rw [pk_un (by omega)]
        exact hfl j d hd
      · have hj2 : j = X.length := by
          have := (List.getElem?_eq_some_iff.mp hd).1
          simp at this
          omega
        subst hj2
        rw [List.getElem?_append_right (Nat.le_refl _), Nat.sub_self] at hd
        cases hd
        exact pk_us
    · rcases List.mem_append.mp hd with hd | hd
      · exact hX.2.2.2 d hd
      · rw [List.mem_singleton.mp hd]; exact hc
set_option maxRecDepth 100000 in
set_option maxHeartbeats 4000000 in
theorem ct_Te_putNumber (l : Launch) (D : va_G) (dA : Nat → ClassId) (ad : Nat → Nat) (mm : Nat → gm_V) (r : Nat → va_E) {X : List Nat} (hX : te_at dA ad r X) {n : Nat} (hn : n < 1152921504606846976) : gx_Ct l D dA yy_Te_putNumber cc_Te_putNumber 6 none 1 0 0 [.ref (ad 40), .long (lN n)] (gx_w ad (gm_h dA ad mm r)) (fun v w => v = none ∧ ∃ r2, w = gx_w ad (gm_h dA ad mm r2) ∧ te_at dA ad r2 (te_ps X (te_num n)) ∧ ∀ k, k ≠ 40 → k ≠ 41 → r2 k = r k) := by
  refine gx_of (by decide) (Nat.le_of_ble_eq_true rfl) (fun K C _ _ => ?_)
  have digits : ∀ m u r1, u < 10 ^ m → m ≤ 11 → (∃ Y, te_at dA ad r1 Y ∧ te_ps X (te_num n) = te_ps Y (te_ds n m u)) → (∀ k, k ≠ 40 → k ≠ 41 → r1 k = r k) → gx_G K D 6 0 0 34 [(3, .long (lN u)), (0, .ref (ad 40)), (1, .long (lN n))] [] (gx_w ad (gm_h dA ad mm r1)) (gx_Z K D dA 0 0 (fun v w => v = none ∧ ∃ r2, w = gx_w ad (gm_h dA ad mm r2) ∧ te_at dA ad r2 (te_ps X (te_num n)) ∧ ∀ k, k ≠ 40 → k ≠ 41 → r2 k = r k)) := by
    intro m
    induction m with
    | zero =>
      intro u r1 hu hm hY ho1
      obtain ⟨Y, h1, hP⟩ := hY
      have hdn : te_ds n 0 u = [] := rfl
      have hu0 : u = 0 := by simpa using hu
      refine gx_lload_n C 0 dd_Te_putNumber_34 (kk := ?_)
      refine gx_lconst (v := lN 0) C dd_Te_putNumber_35 (kk := ?_)
      refine gx_lcmp C dd_Te_putNumber_36 (kk := ?_)
      refine gx_if_le C 64 dd_Te_putNumber_37 (fun h37 => ?_) (fun h37 => absurd (by rw [lc_le, pk_lLE (b := 0) (by omega) (by decide)]; omega) h37)
      refine gx_vret C dd_Te_putNumber_64 ?_
      rw [hdn] at hP
      exact ⟨rfl, r1, rfl, by rw [hP]; exact h1, ho1⟩
    | succ m ihB =>
      intro u r1 hu hm hY ho1
      obtain ⟨Y, h1, hP⟩ := hY
      have hpw : (10 : Nat) ^ (m + 1) ≤ 10 ^ 11 := Nat.pow_le_pow_right (by decide) hm
      have hp1 : (10 : Nat) ^ (m + 1) = 10 ^ m * 10 := Nat.pow_succ 10 m
      have h11 : (10 : Nat) ^ 11 = 100000000000 := by decide
      by_cases hu0 : u = 0
      · have hdn : te_ds n (m + 1) u = [] := if_pos hu0
        refine gx_lload_n C 0 dd_Te_putNumber_34 (kk := ?_)
        refine gx_lconst (v := lN 0) C dd_Te_putNumber_35 (kk := ?_)
        refine gx_lcmp C dd_Te_putNumber_36 (kk := ?_)
        refine gx_if_le C 64 dd_Te_putNumber_37 (fun h37 => ?_) (fun h37 => absurd (by rw [lc_le, pk_lLE (b := 0) (by omega) (by decide)]; omega) h37)
        refine gx_vret C dd_Te_putNumber_64 ?_
        rw [hdn] at hP
        exact ⟨rfl, r1, rfl, by rw [hP]; exact h1, ho1⟩
      · refine gx_lload_n C 0 dd_Te_putNumber_34 (kk := ?_)
        refine gx_lconst (v := lN 0) C dd_Te_putNumber_35 (kk := ?_)
        refine gx_lcmp C dd_Te_putNumber_36 (kk := ?_)
        refine gx_if_le C 64 dd_Te_putNumber_37 (fun h37 => absurd h37 (by rw [lc_le, pk_lLE (b := 0) (by omega) (by decide)]; omega)) (fun h37 => ?_)
        refine gx_aload_n C 1 dd_Te_putNumber_40 (kk := ?_)
        refine gx_bipush (v := nI 48) C dd_Te_putNumber_41 (kk := ?_)
        refine gx_lload_n C 2 dd_Te_putNumber_43 (kk := ?_)
        refine gx_lload_n C 0 dd_Te_putNumber_44 (kk := ?_)
        refine gx_ldiv C dd_Te_putNumber_45 (fun h => hu0 ((pk_lEQ (b := 0) (by omega) (by decide)).mp h)) (kk := ?_)
        refine gx_topl _ (pk_lDiv (by omega) (by omega) (by omega)) ?_
        refine gx_ldc2 C dd_Te_putNumber_46 kc_Te_19 (kk := ?_)
        refine gx_lrem C dd_Te_putNumber_49 (kk := ?_)
        refine gx_topl (lN (n / u % 10)) (by rw [show (10 : Int64) = lN 10 from rfl, pk_lRem (Nat.lt_of_le_of_lt (Nat.div_le_self _ _) (by omega)) (by decide) (by decide)]) ?_
        refine gx_l2i C dd_Te_putNumber_50 (w := nI (n / u % 10)) (hv := lN_i _) (kk := ?_)
        refine gx_iadd C dd_Te_putNumber_51 (kk := ?_)
        refine gx_topi _ (nI_add _ _) ?_
        refine gx_callV C (ct_Te_put (gx_l K) D dA ad mm r1 h1 (c := 48 + n / u % 10) (by omega)) me_Te_put ml_Te_21 mn_Te_put _ (gx_w_at (by decide) (gm_r h1.1)) rfl dd_Te_putNumber_52 (kk := fun v w hq => ?_)
        obtain ⟨rfl, r2, rfl, h2, ho2⟩ := hq
        refine gx_lload_n C 0 dd_Te_putNumber_55 (kk := ?_)
        refine gx_ldc2 C dd_Te_putNumber_56 kc_Te_19 (kk := ?_)
        refine gx_ldiv C dd_Te_putNumber_59 (kk := ?_)
        refine gx_topl (lN (u / 10)) (by rw [show (10 : Int64) = lN 10 from rfl, pk_lDiv (by omega) (by decide) (by decide)]) ?_
        refine gx_lstore_n C _ dd_Te_putNumber_60 (kk := ?_)
        refine gx_goto C 34 dd_Te_putNumber_61 (kk := ?_)
        refine ihB (u / 10) r2 (by omega) (by omega) ?_ (fun k a b => (ho2 k a b).trans (ho1 k a b))
        rw [show te_ds n (m + 1) u = (48 + n / u % 10) :: te_ds n m (u / 10) from if_neg hu0] at hP
        have h3 : te_ps X (te_num n) = te_ps (te_ps Y [48 + n / u % 10]) (te_ds n m (u / 10)) := hP
        exact ⟨_, h2, h3⟩
  have unit : ∀ m d u, d + m = 10 → u * 10 ^ m ≤ 1000000000 → te_u n m u = te_u n 9 1 → gx_G K D 6 0 0 5 [(5, .int (nI d)), (3, .long (lN u)), (0, .ref (ad 40)), (1, .long (lN n))] [] (gx_w ad (gm_h dA ad mm r)) (gx_Z K D dA 0 0 (fun v w => v = none ∧ ∃ r2, w = gx_w ad (gm_h dA ad mm r2) ∧ te_at dA ad r2 (te_ps X (te_num n)) ∧ ∀ k, k ≠ 40 → k ≠ 41 → r2 k = r k)) := by
    intro m
    induction m with
    | zero =>
      intro d u hd hub hn1
      have hub : u * 1 ≤ 1000000000 := hub
      refine gx_iload C 0 dd_Te_putNumber_5 (kk := ?_)
      refine gx_bipush (v := nI 10) C dd_Te_putNumber_7 (kk := ?_)
      refine gx_icmp_ge C 34 dd_Te_putNumber_9 (fun h9 => ?_) (fun h9 => absurd (nI_le (a := 10) (b := d) (by omega) (by omega)) h9)
      refine gx_loc [1, 2, 3] ?_
      exact digits 11 u r (by omega) (by decide) ⟨X, hX, by rw [te_num, ← hn1]; rfl⟩ (fun _ _ _ => rfl)
    | succ m ih =>
      intro d u hd hub hn1
      have hp1 : u * 10 ^ (m + 1) = u * 10 * 10 ^ m := by rw [Nat.pow_succ, Nat.mul_comm (10 ^ m) 10, Nat.mul_assoc]
      have hpos : 1 ≤ 10 ^ m := Nat.pos_of_ne_zero (by simp)
      have hu10 : u * 10 ≤ 1000000000 := Nat.le_trans (Nat.le_mul_of_pos_right _ hpos) (by rw [← hp1]; exact hub)
      refine gx_iload C 0 dd_Te_putNumber_5 (kk := ?_)
      refine gx_bipush (v := nI 10) C dd_Te_putNumber_7 (kk := ?_)
      refine gx_icmp_ge C 34 dd_Te_putNumber_9 (fun h9 => absurd h9 (nI_ge (by omega) (by omega))) (fun h9 => ?_)
      refine gx_lload_n C 1 dd_Te_putNumber_12 (kk := ?_)
      refine gx_ldc2 C dd_Te_putNumber_13 kc_Te_19 (kk := ?_)
      refine gx_lmul C dd_Te_putNumber_16 (kk := ?_)
      refine gx_topl (lN (u * 10)) (by rw [show (10 : Int64) = lN 10 from rfl, lN_mul]) ?_
      refine gx_lload_n C 3 dd_Te_putNumber_17 (kk := ?_)
      refine gx_lcmp C dd_Te_putNumber_18 (kk := ?_)
      refine gx_if_gt C 34 dd_Te_putNumber_19 (fun h19 => ?_) (fun h19 => ?_)
      · refine gx_loc [1, 2, 3] ?_
        rw [lc_gt, pk_lLT (by omega) (by omega)] at h19
        rw [show te_u n (m + 1) u = u from if_neg (by omega)] at hn1
        exact digits 11 u r (by omega) (by decide) ⟨X, hX, by rw [te_num, ← hn1]⟩ (fun _ _ _ => rfl)
      · refine gx_lload_n C 1 dd_Te_putNumber_22 (kk := ?_)
        refine gx_ldc2 C dd_Te_putNumber_23 kc_Te_19 (kk := ?_)
        refine gx_lmul C dd_Te_putNumber_26 (kk := ?_)
        refine gx_topl (lN (u * 10)) (by rw [show (10 : Int64) = lN 10 from rfl, lN_mul]) ?_
        refine gx_lstore_n C _ dd_Te_putNumber_27 (kk := ?_)
        refine gx_iinc C 1 (nI (d + 1)) _ dd_Te_putNumber_28 (nI_1 d) (kk := ?_)
        refine gx_goto C 5 dd_Te_putNumber_31 (kk := ?_)
        rw [lc_gt, pk_lLT (by omega) (by omega)] at h19
        exact ih (d + 1) (u * 10) (by omega) (by rw [hp1] at hub; omega) (by rw [← hn1]; exact (if_pos (by omega)).symm)
  refine gx_lconst (v := lN 1) C dd_Te_putNumber_0 (kk := ?_)
  refine gx_lstore_n C _ dd_Te_putNumber_1 (kk := ?_)
  refine gx_iconst (v := nI 1) C dd_Te_putNumber_2 (kk := ?_)
  refine gx_istore C _ dd_Te_putNumber_3 (kk := ?_)
  exact unit 9 1 1 (by omega) (by decide) rfl
set_option maxRecDepth 100000 in
set_option maxHeartbeats 4000000 in
theorem ct_Te_putWeight (l : Launch) (D : va_G) (dA : Nat → ClassId) (ad : Nat → Nat) (mm : Nat → gm_V) (r : Nat → va_E) {X : List Nat} (hX : te_at dA ad r X) {x0 : Nat} (hx0 : x0 < 1152921504606846976) : gx_Ct l D dA yy_Te_putWeight cc_Te_putWeight 3 none 2 0 0 [.ref (ad 40), .long (lN x0)] (gx_w ad (gm_h dA ad mm r)) (fun v w => v = none ∧ ∃ r2, w = gx_w ad (gm_h dA ad mm r2) ∧ te_at dA ad r2 (te_ps X (te_wt x0)) ∧ ∀ k, k ≠ 40 → k ≠ 41 → r2 k = r k) := by
  refine gx_of (by decide) (Nat.le_of_ble_eq_true rfl) (fun K C _ _ => ?_)
  refine gx_aload_n C 0 dd_Te_putWeight_0 (kk := ?_)
  refine gx_bipush (v := nI 47) C dd_Te_putWeight_1 (kk := ?_)
  refine gx_callV C (ct_Te_put (gx_l K) D dA ad mm r hX (c := 47) (by decide)) me_Te_put ml_Te_21 mn_Te_put _ (gx_w_at (by decide) (gm_r hX.1)) rfl dd_Te_putWeight_3 (kk := fun v w hq => ?_)
  obtain ⟨rfl, r1, rfl, hX1, ho1⟩ := hq
  refine gx_aload_n C 0 dd_Te_putWeight_6 (kk := ?_)
  refine gx_lload_n C 1 dd_Te_putWeight_7 (kk := ?_)
  refine gx_callV C (ct_Te_putNumber (gx_l K) D dA ad mm r1 hX1 (n := x0) (by omega)) me_Te_putNumber ml_Te_25 mn_Te_putNumber _ (gx_w_at (by decide) (gm_r hX1.1)) rfl dd_Te_putWeight_8 (kk := fun v w hq => ?_)
  obtain ⟨rfl, r2, rfl, hX2, ho2⟩ := hq
  refine gx_aload_n C 0 dd_Te_putWeight_11 (kk := ?_)
  refine gx_bipush (v := nI 59) C dd_Te_putWeight_12 (kk := ?_)
  refine gx_callV C (ct_Te_put (gx_l K) D dA ad mm r2 hX2 (c := 59) (by decide)) me_Te_put ml_Te_21 mn_Te_put _ (gx_w_at (by decide) (gm_r hX2.1)) rfl dd_Te_putWeight_14 (kk := fun v w hq => ?_)
  obtain ⟨rfl, r3, rfl, hX3, ho3⟩ := hq
  refine gx_vret C dd_Te_putWeight_17 ?_
  refine ⟨rfl, r3, rfl, ?_, fun k a b => ((ho3 k a b).trans ((ho2 k a b).trans (ho1 k a b)))⟩
  rw [te_wt, te_ps_app, te_ps_app]
  exact hX3
set_option maxRecDepth 100000 in
set_option maxHeartbeats 4000000 in
theorem ct_Te_putStateWeight (l : Launch) (D : va_G) (dA : Nat → ClassId) (ad : Nat → Nat) (mm : Nat → gm_V) (r : Nat → va_E) {X : List Nat} (hX : te_at dA ad r X) {c q x0 : Nat} (hc : c < 65536) (hq : q < 65536) (hx0 : x0 < 1152921504606846976) : gx_Ct l D dA yy_Te_putStateWeight cc_Te_putStateWeight 5 none 3 0 0 [.ref (ad 40), .int (nI c), .int (nI q), .long (lN x0)] (gx_w ad (gm_h dA ad mm r)) (fun v w => v = none ∧ ∃ r2, w = gx_w ad (gm_h dA ad mm r2) ∧ te_at dA ad r2 (te_ps X (te_sw c q x0)) ∧ ∀ k, k ≠ 40 → k ≠ 41 → r2 k = r k) := by
  refine gx_of (by decide) (Nat.le_of_ble_eq_true rfl) (fun K C _ _ => ?_)
  refine gx_aload_n C 0 dd_Te_putStateWeight_0 (kk := ?_)
  refine gx_iload_n C 1 dd_Te_putStateWeight_1 (kk := ?_)
  refine gx_callV C (ct_Te_put (gx_l K) D dA ad mm r hX (c := c) (by omega)) me_Te_put ml_Te_21 mn_Te_put _ (gx_w_at (by decide) (gm_r hX.1)) rfl dd_Te_putStateWeight_2 (kk := fun v w hq => ?_)
  obtain ⟨rfl, r1, rfl, hX1, ho1⟩ := hq
  refine gx_aload_n C 0 dd_Te_putStateWeight_5 (kk := ?_)
  refine gx_iload_n C 2 dd_Te_putStateWeight_6 (kk := ?_)
  refine gx_i2l C dd_Te_putStateWeight_7 (w := lN q) (hv := nI_l (by omega)) (kk := ?_)
  refine gx_callV C (ct_Te_putNumber (gx_l K) D dA ad mm r1 hX1 (n := q) (by omega)) me_Te_putNumber ml_Te_25 mn_Te_putNumber _ (gx_w_at (by decide) (gm_r hX1.1)) rfl dd_Te_putStateWeight_8 (kk := fun v w hq => ?_)
  obtain ⟨rfl, r2, rfl, hX2, ho2⟩ := hq
  refine gx_aload_n C 0 dd_Te_putStateWeight_11 (kk := ?_)
  refine gx_lload_n C 3 dd_Te_putStateWeight_12 (kk := ?_)
  refine gx_callV C (ct_Te_putWeight (gx_l K) D dA ad mm r2 hX2 (x0 := x0) (by omega)) me_Te_putWeight ml_Te_29 mn_Te_putWeight _ (gx_w_at (by decide) (gm_r hX2.1)) rfl dd_Te_putStateWeight_13 (kk := fun v w hq => ?_)
  obtain ⟨rfl, r3, rfl, hX3, ho3⟩ := hq
  refine gx_vret C dd_Te_putStateWeight_16 ?_
  refine ⟨rfl, r3, rfl, ?_, fun k a b => ((ho3 k a b).trans ((ho2 k a b).trans (ho1 k a b)))⟩
  rw [te_sw, te_ps_app, te_ps_app]
  exact hX3
set_option maxRecDepth 100000 in
set_option maxHeartbeats 4000000 in
theorem ct_Te_putArc (l : Launch) (D : va_G) (dA : Nat → ClassId) (ad : Nat → Nat) (mm : Nat → gm_V) (r : Nat → va_E) {X : List Nat} (hX : te_at dA ad r X) {x : Nat × Nat} (hx1 : x.1 < 16384) (hx2 : x.2 < 1152921504606846976) : gx_Ct l D dA yy_Te_putArc cc_Te_putArc 4 none 3 0 0 [.ref (ad 40), .int (nI x.1), .long (lN x.2)] (gx_w ad (gm_h dA ad mm r)) (fun v w => v = none ∧ ∃ r2, w = gx_w ad (gm_h dA ad mm r2) ∧ te_at dA ad r2 (te_ps X (te_ar x)) ∧ ∀ k, k ≠ 40 → k ≠ 41 → r2 k = r k) := by
  refine gx_of (by decide) (Nat.le_of_ble_eq_true rfl) (fun K C _ _ => ?_)
  refine gx_aload_n C 0 dd_Te_putArc_0 (kk := ?_)
  refine gx_iload_n C 1 dd_Te_putArc_1 (kk := ?_)
  refine gx_callS C (ct_WM_fromOf (gx_l K) D dA _ x.1 (by omega)) me_WM_fromOf ml_Te_32 ms_WM_fromOf dd_Te_putArc_2 (kk := fun v w hq => ?_)
  obtain ⟨rfl, rfl⟩ := hq
  refine gx_i2l C dd_Te_putArc_5 (w := lN (x.1 / 1024)) (hv := nI_l (by omega)) (kk := ?_)
  refine gx_callV C (ct_Te_putNumber (gx_l K) D dA ad mm r hX (n := x.1 / 1024) (by omega)) me_Te_putNumber ml_Te_25 mn_Te_putNumber _ (gx_w_at (by decide) (gm_r hX.1)) rfl dd_Te_putArc_6 (kk := fun v w hq => ?_)
  obtain ⟨rfl, r1, rfl, hX1, ho1⟩ := hq
  refine gx_aload_n C 0 dd_Te_putArc_9 (kk := ?_)
  refine gx_bipush (v := nI 45) C dd_Te_putArc_10 (kk := ?_)
  refine gx_callV C (ct_Te_put (gx_l K) D dA ad mm r1 hX1 (c := 45) (by decide)) me_Te_put ml_Te_21 mn_Te_put _ (gx_w_at (by decide) (gm_r hX1.1)) rfl dd_Te_putArc_12 (kk := fun v w hq => ?_)
  obtain ⟨rfl, r2, rfl, hX2, ho2⟩ := hq
  refine gx_aload_n C 0 dd_Te_putArc_15 (kk := ?_)
  refine gx_iload_n C 1 dd_Te_putArc_16 (kk := ?_)
  refine gx_callS C (ct_WM_toOf (gx_l K) D dA _ x.1 (by omega)) me_WM_toOf ml_Te_36 ms_WM_toOf dd_Te_putArc_17 (kk := fun v w hq => ?_)
  obtain ⟨rfl, rfl⟩ := hq
  refine gx_i2l C dd_Te_putArc_20 (w := lN (x.1 % 16)) (hv := nI_l (by omega)) (kk := ?_)
  refine gx_callV C (ct_Te_putNumber (gx_l K) D dA ad mm r2 hX2 (n := x.1 % 16) (by omega)) me_Te_putNumber ml_Te_25 mn_Te_putNumber _ (gx_w_at (by decide) (gm_r hX2.1)) rfl dd_Te_putArc_21 (kk := fun v w hq => ?_)
  obtain ⟨rfl, r3, rfl, hX3, ho3⟩ := hq
  refine gx_aload_n C 0 dd_Te_putArc_24 (kk := ?_)
  refine gx_bipush (v := nI 58) C dd_Te_putArc_25 (kk := ?_)
  refine gx_callV C (ct_Te_put (gx_l K) D dA ad mm r3 hX3 (c := 58) (by decide)) me_Te_put ml_Te_21 mn_Te_put _ (gx_w_at (by decide) (gm_r hX3.1)) rfl dd_Te_putArc_27 (kk := fun v w hq => ?_)
  obtain ⟨rfl, r4, rfl, hX4, ho4⟩ := hq
  refine gx_aload_n C 0 dd_Te_putArc_30 (kk := ?_)
  refine gx_iload_n C 1 dd_Te_putArc_31 (kk := ?_)
  refine gx_callS C (ct_WM_inOf (gx_l K) D dA _ x.1 (by omega)) me_WM_inOf ml_Te_39 ms_WM_inOf dd_Te_putArc_32 (kk := fun v w hq => ?_)
  obtain ⟨rfl, rfl⟩ := hq
  refine gx_i2l C dd_Te_putArc_35 (w := lN (x.1 / 128 % 8)) (hv := nI_l (by omega)) (kk := ?_)
  refine gx_callV C (ct_Te_putNumber (gx_l K) D dA ad mm r4 hX4 (n := x.1 / 128 % 8) (by omega)) me_Te_putNumber ml_Te_25 mn_Te_putNumber _ (gx_w_at (by decide) (gm_r hX4.1)) rfl dd_Te_putArc_36 (kk := fun v w hq => ?_)
  obtain ⟨rfl, r5, rfl, hX5, ho5⟩ := hq
  refine gx_aload_n C 0 dd_Te_putArc_39 (kk := ?_)
  refine gx_iload_n C 1 dd_Te_putArc_40 (kk := ?_)
  refine gx_callS C (ct_WM_outOf (gx_l K) D dA _ x.1 (by omega)) me_WM_outOf ml_Te_42 ms_WM_outOf dd_Te_putArc_41 (kk := fun v w hq => ?_)
  obtain ⟨rfl, rfl⟩ := hq
  refine gx_i2l C dd_Te_putArc_44 (w := lN (x.1 / 16 % 8)) (hv := nI_l (by omega)) (kk := ?_)
  refine gx_callV C (ct_Te_putNumber (gx_l K) D dA ad mm r5 hX5 (n := x.1 / 16 % 8) (by omega)) me_Te_putNumber ml_Te_25 mn_Te_putNumber _ (gx_w_at (by decide) (gm_r hX5.1)) rfl dd_Te_putArc_45 (kk := fun v w hq => ?_)
  obtain ⟨rfl, r6, rfl, hX6, ho6⟩ := hq
  refine gx_aload_n C 0 dd_Te_putArc_48 (kk := ?_)
  refine gx_lload_n C 2 dd_Te_putArc_49 (kk := ?_)
  refine gx_callV C (ct_Te_putWeight (gx_l K) D dA ad mm r6 hX6 (x0 := x.2) (by omega)) me_Te_putWeight ml_Te_29 mn_Te_putWeight _ (gx_w_at (by decide) (gm_r hX6.1)) rfl dd_Te_putArc_50 (kk := fun v w hq => ?_)
  obtain ⟨rfl, r7, rfl, hX7, ho7⟩ := hq
  refine gx_vret C dd_Te_putArc_53 ?_
  refine ⟨rfl, r7, rfl, ?_, fun k a b => ((ho7 k a b).trans ((ho6 k a b).trans ((ho5 k a b).trans ((ho4 k a b).trans ((ho3 k a b).trans ((ho2 k a b).trans (ho1 k a b)))))))⟩
  rw [te_ar, te_ps_app, te_ps_app, te_ps_app, te_ps_app, te_ps_app, te_ps_app]
  exact hX7
set_option maxRecDepth 100000 in
set_option maxHeartbeats 4000000 in
theorem ct_Te_tell (l : Launch) (D : va_G) (dA : Nat → ClassId) (ad : Nat → Nat) (mm : Nat → gm_V) (r : Nat → va_E) {X : List Nat} (hX : te_at dA ad r X) {ia : Nat} {a : am_T} (hia : ia < 5) (hMa : gm_is (mm ia) a) (hba : am_b 1000000001 a) : gx_Ct l D dA yy_Te_tell cc_Te_tell 3 none 4 0 0 [.ref (ad 40), .ref (ad (2 + 4 * ia))] (gx_w ad (gm_h dA ad mm r)) (fun v w => v = none ∧ ∃ r2, w = gx_w ad (gm_h dA ad mm r2) ∧ te_at dA ad r2 (te_ps [] (te_all a)) ∧ ∀ k, k ≠ 40 → k ≠ 41 → r2 k = r k) := by
  refine gx_of (by decide) (Nat.le_of_ble_eq_true rfl) (fun K C _ _ => ?_)
  have hn16 := hba.1
  have hl64 := hba.2.1
  have loop2 : ∀ m j r1, j + m = (am_ar a).length → te_at dA ad r1 (te_ps (te_ps (te_ps (te_ps (te_ps (te_ps [] [110]) (te_num (am_n a))) [59]) (te_st (am_st a))) (te_es (am_en a) (am_n a))) (te_as (am_ar a) j)) → (∀ k, k ≠ 40 → k ≠ 41 → r1 k = r k) → gx_G K D 3 0 0 92 [(2, .int (nI j)), (0, .ref (ad 40)), (1, .ref (ad (2 + 4 * ia)))] [] (gx_w ad (gm_h dA ad mm r1)) (gx_Z K D dA 0 0 (fun v w => v = none ∧ ∃ r2, w = gx_w ad (gm_h dA ad mm r2) ∧ te_at dA ad r2 (te_ps [] (te_all a)) ∧ ∀ k, k ≠ 40 → k ≠ 41 → r2 k = r k)) := by
    intro m
    induction m with
    | zero =>
      intro j r1 hj h1 ho
      refine gx_iload_n C 0 dd_Te_tell_92 (kk := ?_)
      refine gx_aload_n C 2 dd_Te_tell_93 (kk := ?_)
      refine gm_get C fd_Te_67 hia dd_Te_tell_94 (kk := ?_)
      refine gx_topi _ hMa.2.2.2.1 ?_
      refine gx_icmp_ge C 122 dd_Te_tell_97 (fun h97 => ?_) (fun h97 => absurd (nI_le (a := (am_ar a).length) (b := j) (by omega) (by omega)) h97)
      refine gx_vret C dd_Te_tell_122 ?_
      refine ⟨rfl, r1, rfl, ?_, ho⟩
      rw [show j = (am_ar a).length by omega] at h1
      rw [te_all, te_ps_app, te_ps_app, te_ps_app, te_ps_app, te_ps_app]
      exact h1
    | succ m ih =>
      intro j r1 hj h1 ho
      obtain ⟨x, hx⟩ : ∃ x, (am_ar a)[j]? = some x := ⟨_, List.getElem?_eq_getElem (by omega)⟩
      obtain ⟨hx1, hx2⟩ := hMa.2.2.2.2 _ _ hx
      obtain ⟨hxb, hxc⟩ := hba.2.2.1 x (List.mem_of_getElem? hx)
      refine gx_iload_n C 0 dd_Te_tell_92 (kk := ?_)
      refine gx_aload_n C 2 dd_Te_tell_93 (kk := ?_)
      refine gm_get C fd_Te_67 hia dd_Te_tell_94 (kk := ?_)
      refine gx_topi _ hMa.2.2.2.1 ?_
      refine gx_icmp_ge C 122 dd_Te_tell_97 (fun h97 => absurd h97 (nI_ge (by omega) (by omega))) (fun h97 => ?_)
      refine gx_aload_n C 1 dd_Te_tell_100 (kk := ?_)
      refine gx_aload_n C 2 dd_Te_tell_101 (kk := ?_)
      refine gm_get C fd_Te_70 (by assumption) dd_Te_tell_102 (kk := ?_)
      refine gx_iload_n C 0 dd_Te_tell_105 (kk := ?_)
      refine gm_ln_k C hia dd_Te_tell_106 (by omega) (kk := ?_)
      refine gx_topi _ hx1 ?_
      refine gx_aload_n C 2 dd_Te_tell_107 (kk := ?_)
      refine gm_get C fd_Te_74 (by assumption) dd_Te_tell_108 (kk := ?_)
      refine gx_iload_n C 0 dd_Te_tell_111 (kk := ?_)
      refine gm_ln_g C hia dd_Te_tell_112 (by omega) (kk := ?_)
      refine gx_topl _ hx2 ?_
      refine gx_callV C (ct_Te_putArc (gx_l K) D dA ad mm r1 h1 (x := x) hxb (by omega)) me_Te_putArc ml_Te_77 mn_Te_putArc _ (gx_w_at (by decide) (gm_r h1.1)) rfl dd_Te_tell_113 (kk := fun v w hq => ?_)
      obtain ⟨rfl, r2, rfl, h2, ho2⟩ := hq
      refine gx_iinc C 0 (nI (j + 1)) _ dd_Te_tell_116 (nI_1 j) (kk := ?_)
      refine gx_goto C 92 dd_Te_tell_119 (kk := ?_)
      exact ih (j + 1) r2 (by omega) (by rw [te_as_s hx, te_ps_app]; exact h2) (fun k a b => (ho2 k a b).trans (ho k a b))
  have loop1 : ∀ m j r1, j + m = am_n a → te_at dA ad r1 (te_ps (te_ps (te_ps (te_ps (te_ps [] [110]) (te_num (am_n a))) [59]) (te_st (am_st a))) (te_es (am_en a) j)) → (∀ k, k ≠ 40 → k ≠ 41 → r1 k = r k) → gx_G K D 3 0 0 50 [(2, .int (nI j)), (0, .ref (ad 40)), (1, .ref (ad (2 + 4 * ia)))] [] (gx_w ad (gm_h dA ad mm r1)) (gx_Z K D dA 0 0 (fun v w => v = none ∧ ∃ r2, w = gx_w ad (gm_h dA ad mm r2) ∧ te_at dA ad r2 (te_ps [] (te_all a)) ∧ ∀ k, k ≠ 40 → k ≠ 41 → r2 k = r k)) := by
    intro m
    induction m with
    | zero =>
      intro j r1 hj h1 ho
      refine gx_iload_n C 0 dd_Te_tell_50 (kk := ?_)
      refine gx_aload_n C 2 dd_Te_tell_51 (kk := ?_)
      refine gm_get C fd_Te_45 hia dd_Te_tell_52 (kk := ?_)
      refine gx_topi _ hMa.1 ?_
      refine gx_icmp_ge C 90 dd_Te_tell_55 (fun h55 => ?_) (fun h55 => absurd (nI_le (a := am_n a) (b := j) (by omega) (by omega)) h55)
      refine gx_iconst (v := nI 0) C dd_Te_tell_90 (kk := ?_)
      refine gx_istore_n C _ dd_Te_tell_91 (kk := ?_)
      rw [show j = am_n a by omega] at h1
      exact loop2 (am_ar a).length 0 r1 (by omega) h1 ho
    | succ m ih =>
      intro j r1 hj h1 ho
      refine gx_iload_n C 0 dd_Te_tell_50 (kk := ?_)
      refine gx_aload_n C 2 dd_Te_tell_51 (kk := ?_)
      refine gm_get C fd_Te_45 hia dd_Te_tell_52 (kk := ?_)
      refine gx_topi _ hMa.1 ?_
      refine gx_icmp_ge C 90 dd_Te_tell_55 (fun h55 => absurd h55 (nI_ge (by omega) (by omega))) (fun h55 => ?_)
      refine gx_aload_n C 2 dd_Te_tell_58 (kk := ?_)
      refine gm_get C fd_Te_61 (by assumption) dd_Te_tell_59 (kk := ?_)
      refine gx_iload_n C 0 dd_Te_tell_62 (kk := ?_)
      refine gm_ln_e C hia dd_Te_tell_63 (by omega) (kk := ?_)
      refine gx_topl _ (hMa.2.2.1 j (by omega)) ?_
      refine gx_ldc2 C dd_Te_tell_64 kc_Te_65 (kk := ?_)
      refine gx_lcmp C dd_Te_tell_67 (kk := ?_)
      refine gx_if_eq C 84 dd_Te_tell_68 (fun h68 => ?_) (fun h68 => ?_)
      · refine gx_iinc C 0 (nI (j + 1)) _ dd_Te_tell_84 (nI_1 j) (kk := ?_)
        refine gx_goto C 50 dd_Te_tell_87 (kk := ?_)
        rw [lc_eq, am_e_eq (fun w hw => Nat.lt_trans (hba.2.2.2.1 _ _ hw) (by decide))] at h68
        exact ih (j + 1) r1 (by omega) (by rw [te_es, h68, te_en, List.append_nil]; exact h1) ho
      · refine gx_aload_n C 1 dd_Te_tell_71 (kk := ?_)
        refine gx_bipush (v := nI 102) C dd_Te_tell_72 (kk := ?_)
        refine gx_iload_n C 0 dd_Te_tell_74 (kk := ?_)
        refine gx_aload_n C 2 dd_Te_tell_75 (kk := ?_)
        refine gm_get C fd_Te_61 (by assumption) dd_Te_tell_76 (kk := ?_)
        refine gx_iload_n C 0 dd_Te_tell_79 (kk := ?_)
        refine gm_ln_e C hia dd_Te_tell_80 (by omega) (kk := ?_)
        refine gx_topl _ (hMa.2.2.1 j (by omega)) ?_
        obtain ⟨e, he⟩ := am_e_lN (o := am_en a j) (by rw [lc_eq] at h68; exact h68)
        have heb := hba.2.2.2.1 _ _ he
        refine gx_topl (lN e) (by rw [he]; rfl) ?_
        refine gx_callV C (ct_Te_putStateWeight (gx_l K) D dA ad mm r1 h1 (c := 102) (q := j) (x0 := e) (by decide) (by omega) (by omega)) me_Te_putStateWeight ml_Te_57 mn_Te_putStateWeight _ (gx_w_at (by decide) (gm_r h1.1)) rfl dd_Te_tell_81 (kk := fun v w hq => ?_)
        obtain ⟨rfl, r2, rfl, h2, ho2⟩ := hq
        refine gx_iinc C 0 (nI (j + 1)) _ dd_Te_tell_84 (nI_1 j) (kk := ?_)
        refine gx_goto C 50 dd_Te_tell_87 (kk := ?_)
        exact ih (j + 1) r2 (by omega) (by rw [te_es, he, te_en, te_ps_app]; exact h2) (fun k a b => (ho2 k a b).trans (ho k a b))
  refine gx_aload_n C 0 dd_Te_tell_0 (kk := ?_)
  refine gx_iconst (v := nI 0) C dd_Te_tell_1 (kk := ?_)
  refine gz_put C fw_Te_15 hX.1 dd_Te_tell_2 (kk := fun r0 hr0 => ?_)
  have hX0 : te_at dA ad r0 [] := by
    obtain ⟨f, hf41, hfl⟩ := hX.2.1
    exact ⟨by rw [hr0, gm_us]; rfl, ⟨f, by rw [hr0, gm_un (by decide)]; exact hf41, fun j c h => by cases h⟩, Nat.zero_le _, fun c h => by cases h⟩
  refine gx_aload_n C 0 dd_Te_tell_5 (kk := ?_)
  refine gx_bipush (v := nI 110) C dd_Te_tell_6 (kk := ?_)
  refine gx_callV C (ct_Te_put (gx_l K) D dA ad mm r0 hX0 (c := 110) (by decide)) me_Te_put ml_Te_21 mn_Te_put _ (gx_w_at (by decide) (gm_r hX0.1)) rfl dd_Te_tell_8 (kk := fun v w hq => ?_)
  obtain ⟨rfl, r1, rfl, hX1, ho1⟩ := hq
  refine gx_aload_n C 0 dd_Te_tell_11 (kk := ?_)
  refine gx_aload_n C 1 dd_Te_tell_12 (kk := ?_)
  refine gm_get C fd_Te_45 hia dd_Te_tell_13 (kk := ?_)
  refine gx_topi _ hMa.1 ?_
  refine gx_i2l C dd_Te_tell_16 (w := lN (am_n a)) (hv := nI_l (by omega)) (kk := ?_)
  refine gx_callV C (ct_Te_putNumber (gx_l K) D dA ad mm r1 hX1 (n := am_n a) (by omega)) me_Te_putNumber ml_Te_25 mn_Te_putNumber _ (gx_w_at (by decide) (gm_r hX1.1)) rfl dd_Te_tell_17 (kk := fun v w hq => ?_)
  obtain ⟨rfl, r2, rfl, hX2, ho2⟩ := hq
  refine gx_aload_n C 0 dd_Te_tell_20 (kk := ?_)
  refine gx_bipush (v := nI 59) C dd_Te_tell_21 (kk := ?_)
  refine gx_callV C (ct_Te_put (gx_l K) D dA ad mm r2 hX2 (c := 59) (by decide)) me_Te_put ml_Te_21 mn_Te_put _ (gx_w_at (by decide) (gm_r hX2.1)) rfl dd_Te_tell_23 (kk := fun v w hq => ?_)
  obtain ⟨rfl, r3, rfl, hX3, ho3⟩ := hq
  rcases hst : am_st a with _ | x
  · have hsq := hMa.2.1
    rw [hst] at hsq
    refine gx_aload_n C 1 dd_Te_tell_26 (kk := ?_)
    refine gm_get C fd_Te_50 hia dd_Te_tell_27 (kk := ?_)
    refine gx_topi _ hsq.1 ?_
    refine gx_iconst (v := -1) C dd_Te_tell_30 (kk := ?_)
    refine gx_icmp_eq C 48 dd_Te_tell_31 (fun h31 => ?_) (fun h31 => absurd rfl h31)
    refine gx_iconst (v := nI 0) C dd_Te_tell_48 (kk := ?_)
    refine gx_istore_n C _ dd_Te_tell_49 (kk := ?_)
    exact loop1 (am_n a) 0 r3 (by omega) (by rw [hst]; exact hX3) (fun k a b => (ho3 k a b).trans ((ho2 k a b).trans ((ho1 k a b).trans (by rw [hr0, gm_un a]))))
  · have hsq := hMa.2.1
    rw [hst] at hsq
    have hxb := hba.2.2.2.2 x hst
    refine gx_aload_n C 1 dd_Te_tell_26 (kk := ?_)
    refine gm_get C fd_Te_50 hia dd_Te_tell_27 (kk := ?_)
    refine gx_topi _ hsq.1 ?_
    refine gx_iconst (v := -1) C dd_Te_tell_30 (kk := ?_)
    refine gx_icmp_eq C 48 dd_Te_tell_31 (fun h31 => absurd h31 (nI_m1 (by omega))) (fun h31 => ?_)
    refine gx_aload_n C 0 dd_Te_tell_34 (kk := ?_)
    refine gx_bipush (v := nI 115) C dd_Te_tell_35 (kk := ?_)
    refine gx_aload_n C 1 dd_Te_tell_37 (kk := ?_)
    refine gm_get C fd_Te_50 hia dd_Te_tell_38 (kk := ?_)
    refine gx_topi _ hsq.1 ?_
    refine gx_aload_n C 1 dd_Te_tell_41 (kk := ?_)
    refine gm_get C fd_Te_53 hia dd_Te_tell_42 (kk := ?_)
    refine gx_topl _ hsq.2 ?_
    refine gx_callV C (ct_Te_putStateWeight (gx_l K) D dA ad mm r3 hX3 (c := 115) (q := x.1) (x0 := x.2) (by decide) (by omega) (by omega)) me_Te_putStateWeight ml_Te_57 mn_Te_putStateWeight _ (gx_w_at (by decide) (gm_r hX3.1)) rfl dd_Te_tell_45 (kk := fun v w hq => ?_)
    obtain ⟨rfl, r4, rfl, hX4, ho4⟩ := hq
    refine gx_iconst (v := nI 0) C dd_Te_tell_48 (kk := ?_)
    refine gx_istore_n C _ dd_Te_tell_49 (kk := ?_)
    exact loop1 (am_n a) 0 r4 (by omega) (by rw [hst]; exact hX4) (fun k a b => (ho4 k a b).trans ((ho3 k a b).trans ((ho2 k a b).trans ((ho1 k a b).trans (by rw [hr0, gm_un a])))))
