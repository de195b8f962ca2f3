theorem dd_Mo_sayDigit_0 : decode cc_Mo_sayDigit 0 = .ok (.aload_n 0, 1) := by decide +kernel
theorem dd_Mo_sayDigit_1 : decode cc_Mo_sayDigit 1 = .ok (.getfield 47, 3) := by decide +kernel
theorem dd_Mo_sayDigit_4 : decode cc_Mo_sayDigit 4 = .ok (.aload_n 0, 1) := by decide +kernel
theorem dd_Mo_sayDigit_5 : decode cc_Mo_sayDigit 5 = .ok (.getfield 180, 3) := by decide +kernel
theorem dd_Mo_sayDigit_8 : decode cc_Mo_sayDigit 8 = .ok (.bipush 48, 2) := by decide +kernel
theorem dd_Mo_sayDigit_10 : decode cc_Mo_sayDigit 10 = .ok (.iload_n 1, 1) := by decide +kernel
theorem dd_Mo_sayDigit_11 : decode cc_Mo_sayDigit 11 = .ok (.iadd, 1) := by decide +kernel
theorem dd_Mo_sayDigit_12 : decode cc_Mo_sayDigit 12 = .ok (.iastore, 1) := by decide +kernel
theorem dd_Mo_sayDigit_13 : decode cc_Mo_sayDigit 13 = .ok (.aload_n 0, 1) := by decide +kernel
theorem dd_Mo_sayDigit_14 : decode cc_Mo_sayDigit 14 = .ok (.dup, 1) := by decide +kernel
theorem dd_Mo_sayDigit_15 : decode cc_Mo_sayDigit 15 = .ok (.getfield 180, 3) := by decide +kernel
theorem dd_Mo_sayDigit_18 : decode cc_Mo_sayDigit 18 = .ok (.iconst 1, 1) := by decide +kernel
theorem dd_Mo_sayDigit_19 : decode cc_Mo_sayDigit 19 = .ok (.iadd, 1) := by decide +kernel
theorem dd_Mo_sayDigit_20 : decode cc_Mo_sayDigit 20 = .ok (.putfield 180, 3) := by decide +kernel
theorem dd_Mo_sayDigit_23 : decode cc_Mo_sayDigit 23 = .ok (.return_, 1) := by decide +kernel
theorem dd_Mo_sayNumber_0 : decode cc_Mo_sayNumber 0 = .ok (.lconst 1, 1) := by decide +kernel
theorem dd_Mo_sayNumber_1 : decode cc_Mo_sayNumber 1 = .ok (.lstore 4, 2) := by decide +kernel
theorem dd_Mo_sayNumber_3 : decode cc_Mo_sayNumber 3 = .ok (.lload_n 1, 1) := by decide +kernel
theorem dd_Mo_sayNumber_4 : decode cc_Mo_sayNumber 4 = .ok (.lload 4, 2) := by decide +kernel
theorem dd_Mo_sayNumber_6 : decode cc_Mo_sayNumber 6 = .ok (.ldiv, 1) := by decide +kernel
theorem dd_Mo_sayNumber_7 : decode cc_Mo_sayNumber 7 = .ok (.ldc2_w 183, 3) := by decide +kernel
theorem dd_Mo_sayNumber_10 : decode cc_Mo_sayNumber 10 = .ok (.lcmp, 1) := by decide +kernel
theorem dd_Mo_sayNumber_11 : decode cc_Mo_sayNumber 11 = .ok (.ifCond .lt 14, 3) := by decide +kernel
theorem dd_Mo_sayNumber_14 : decode cc_Mo_sayNumber 14 = .ok (.lload 4, 2) := by decide +kernel
theorem dd_Mo_sayNumber_16 : decode cc_Mo_sayNumber 16 = .ok (.ldc2_w 183, 3) := by decide +kernel
theorem dd_Mo_sayNumber_19 : decode cc_Mo_sayNumber 19 = .ok (.lmul, 1) := by decide +kernel
theorem dd_Mo_sayNumber_20 : decode cc_Mo_sayNumber 20 = .ok (.lstore 4, 2) := by decide +kernel
theorem dd_Mo_sayNumber_22 : decode cc_Mo_sayNumber 22 = .ok (.goto (-19), 3) := by decide +kernel
theorem dd_Mo_sayNumber_25 : decode cc_Mo_sayNumber 25 = .ok (.lload 4, 2) := by decide +kernel
theorem dd_Mo_sayNumber_27 : decode cc_Mo_sayNumber 27 = .ok (.lconst 0, 1) := by decide +kernel
theorem dd_Mo_sayNumber_28 : decode cc_Mo_sayNumber 28 = .ok (.lcmp, 1) := by decide +kernel
theorem dd_Mo_sayNumber_29 : decode cc_Mo_sayNumber 29 = .ok (.ifCond .le 27, 3) := by decide +kernel
theorem dd_Mo_sayNumber_32 : decode cc_Mo_sayNumber 32 = .ok (.aload_n 0, 1) := by decide +kernel
theorem dd_Mo_sayNumber_33 : decode cc_Mo_sayNumber 33 = .ok (.lload_n 1, 1) := by decide +kernel
theorem dd_Mo_sayNumber_34 : decode cc_Mo_sayNumber 34 = .ok (.lload 4, 2) := by decide +kernel
theorem dd_Mo_sayNumber_36 : decode cc_Mo_sayNumber 36 = .ok (.ldiv, 1) := by decide +kernel
theorem dd_Mo_sayNumber_37 : decode cc_Mo_sayNumber 37 = .ok (.ldc2_w 183, 3) := by decide +kernel
theorem dd_Mo_sayNumber_40 : decode cc_Mo_sayNumber 40 = .ok (.lrem, 1) := by decide +kernel
theorem dd_Mo_sayNumber_41 : decode cc_Mo_sayNumber 41 = .ok (.l2i, 1) := by decide +kernel
theorem dd_Mo_sayNumber_42 : decode cc_Mo_sayNumber 42 = .ok (.invokevirtual 185, 3) := by decide +kernel
theorem dd_Mo_sayNumber_45 : decode cc_Mo_sayNumber 45 = .ok (.lload 4, 2) := by decide +kernel
theorem dd_Mo_sayNumber_47 : decode cc_Mo_sayNumber 47 = .ok (.ldc2_w 183, 3) := by decide +kernel
theorem dd_Mo_sayNumber_50 : decode cc_Mo_sayNumber 50 = .ok (.ldiv, 1) := by decide +kernel
theorem dd_Mo_sayNumber_51 : decode cc_Mo_sayNumber 51 = .ok (.lstore 4, 2) := by decide +kernel
theorem dd_Mo_sayNumber_53 : decode cc_Mo_sayNumber 53 = .ok (.goto (-28), 3) := by decide +kernel
theorem dd_Mo_sayNumber_56 : decode cc_Mo_sayNumber 56 = .ok (.aload_n 0, 1) := by decide +kernel
theorem dd_Mo_sayNumber_57 : decode cc_Mo_sayNumber 57 = .ok (.iload_n 3, 1) := by decide +kernel
theorem dd_Mo_sayNumber_58 : decode cc_Mo_sayNumber 58 = .ok (.invokevirtual 188, 3) := by decide +kernel
theorem dd_Mo_sayNumber_61 : decode cc_Mo_sayNumber 61 = .ok (.return_, 1) := by decide +kernel
theorem dd_Mo_print_0 : decode cc_Mo_print 0 = .ok (.iload_n 1, 1) := by decide +kernel
theorem dd_Mo_print_1 : decode cc_Mo_print 1 = .ok (.invokestatic 81, 3) := by decide +kernel
theorem dd_Mo_print_4 : decode cc_Mo_print 4 = .ok (.ifCond .ne 5, 3) := by decide +kernel
theorem dd_Mo_print_7 : decode cc_Mo_print 7 = .ok (.iconst (-1), 1) := by decide +kernel
theorem dd_Mo_print_8 : decode cc_Mo_print 8 = .ok (.ireturn, 1) := by decide +kernel
theorem dd_Mo_print_9 : decode cc_Mo_print 9 = .ok (.aload_n 0, 1) := by decide +kernel
theorem dd_Mo_print_10 : decode cc_Mo_print 10 = .ok (.iconst 0, 1) := by decide +kernel
theorem dd_Mo_print_11 : decode cc_Mo_print 11 = .ok (.putfield 180, 3) := by decide +kernel
theorem dd_Mo_print_14 : decode cc_Mo_print 14 = .ok (.aload_n 0, 1) := by decide +kernel
theorem dd_Mo_print_15 : decode cc_Mo_print 15 = .ok (.bipush 110, 2) := by decide +kernel
theorem dd_Mo_print_17 : decode cc_Mo_print 17 = .ok (.invokevirtual 188, 3) := by decide +kernel
theorem dd_Mo_print_20 : decode cc_Mo_print 20 = .ok (.aload_n 0, 1) := by decide +kernel
theorem dd_Mo_print_21 : decode cc_Mo_print 21 = .ok (.aload_n 0, 1) := by decide +kernel
theorem dd_Mo_print_22 : decode cc_Mo_print 22 = .ok (.getfield 7, 3) := by decide +kernel
theorem dd_Mo_print_25 : decode cc_Mo_print 25 = .ok (.iload_n 1, 1) := by decide +kernel
theorem dd_Mo_print_26 : decode cc_Mo_print 26 = .ok (.iaload, 1) := by decide +kernel
theorem dd_Mo_print_27 : decode cc_Mo_print 27 = .ok (.i2l, 1) := by decide +kernel
theorem dd_Mo_print_28 : decode cc_Mo_print 28 = .ok (.bipush 59, 2) := by decide +kernel
theorem dd_Mo_print_30 : decode cc_Mo_print 30 = .ok (.invokevirtual 191, 3) := by decide +kernel
theorem dd_Mo_print_33 : decode cc_Mo_print 33 = .ok (.aload_n 0, 1) := by decide +kernel
theorem dd_Mo_print_34 : decode cc_Mo_print 34 = .ok (.getfield 13, 3) := by decide +kernel
theorem dd_Mo_print_37 : decode cc_Mo_print 37 = .ok (.iload_n 1, 1) := by decide +kernel
theorem dd_Mo_print_38 : decode cc_Mo_print 38 = .ok (.iaload, 1) := by decide +kernel
theorem dd_Mo_print_39 : decode cc_Mo_print 39 = .ok (.ifCond .lt 34, 3) := by decide +kernel
theorem dd_Mo_print_42 : decode cc_Mo_print 42 = .ok (.aload_n 0, 1) := by decide +kernel
theorem dd_Mo_print_43 : decode cc_Mo_print 43 = .ok (.bipush 115, 2) := by decide +kernel
theorem dd_Mo_print_45 : decode cc_Mo_print 45 = .ok (.invokevirtual 188, 3) := by decide +kernel
theorem dd_Mo_print_48 : decode cc_Mo_print 48 = .ok (.aload_n 0, 1) := by decide +kernel
theorem dd_Mo_print_49 : decode cc_Mo_print 49 = .ok (.aload_n 0, 1) := by decide +kernel
theorem dd_Mo_print_50 : decode cc_Mo_print 50 = .ok (.getfield 13, 3) := by decide +kernel
theorem dd_Mo_print_53 : decode cc_Mo_print 53 = .ok (.iload_n 1, 1) := by decide +kernel
theorem dd_Mo_print_54 : decode cc_Mo_print 54 = .ok (.iaload, 1) := by decide +kernel
theorem dd_Mo_print_55 : decode cc_Mo_print 55 = .ok (.i2l, 1) := by decide +kernel
theorem dd_Mo_print_56 : decode cc_Mo_print 56 = .ok (.bipush 47, 2) := by decide +kernel
theorem dd_Mo_print_58 : decode cc_Mo_print 58 = .ok (.invokevirtual 191, 3) := by decide +kernel
theorem dd_Mo_print_61 : decode cc_Mo_print 61 = .ok (.aload_n 0, 1) := by decide +kernel
theorem dd_Mo_print_62 : decode cc_Mo_print 62 = .ok (.aload_n 0, 1) := by decide +kernel
theorem dd_Mo_print_63 : decode cc_Mo_print 63 = .ok (.getfield 16, 3) := by decide +kernel
theorem dd_Mo_print_66 : decode cc_Mo_print 66 = .ok (.iload_n 1, 1) := by decide +kernel
theorem dd_Mo_print_67 : decode cc_Mo_print 67 = .ok (.laload, 1) := by decide +kernel
theorem dd_Mo_print_68 : decode cc_Mo_print 68 = .ok (.bipush 59, 2) := by decide +kernel
theorem dd_Mo_print_70 : decode cc_Mo_print 70 = .ok (.invokevirtual 191, 3) := by decide +kernel
theorem dd_Mo_print_73 : decode cc_Mo_print 73 = .ok (.iconst 0, 1) := by decide +kernel
theorem dd_Mo_print_74 : decode cc_Mo_print 74 = .ok (.istore_n 2, 1) := by decide +kernel
theorem dd_Mo_print_75 : decode cc_Mo_print 75 = .ok (.iload_n 2, 1) := by decide +kernel
theorem dd_Mo_print_76 : decode cc_Mo_print 76 = .ok (.aload_n 0, 1) := by decide +kernel
theorem dd_Mo_print_77 : decode cc_Mo_print 77 = .ok (.getfield 7, 3) := by decide +kernel
theorem dd_Mo_print_80 : decode cc_Mo_print 80 = .ok (.iload_n 1, 1) := by decide +kernel
theorem dd_Mo_print_81 : decode cc_Mo_print 81 = .ok (.iaload, 1) := by decide +kernel
theorem dd_Mo_print_82 : decode cc_Mo_print 82 = .ok (.if_icmp .ge 56, 3) := by decide +kernel
theorem dd_Mo_print_85 : decode cc_Mo_print 85 = .ok (.aload_n 0, 1) := by decide +kernel
theorem dd_Mo_print_86 : decode cc_Mo_print 86 = .ok (.getfield 20, 3) := by decide +kernel
theorem dd_Mo_print_89 : decode cc_Mo_print 89 = .ok (.bipush 16, 2) := by decide +kernel
theorem dd_Mo_print_91 : decode cc_Mo_print 91 = .ok (.iload_n 1, 1) := by decide +kernel
theorem dd_Mo_print_92 : decode cc_Mo_print 92 = .ok (.imul, 1) := by decide +kernel
theorem dd_Mo_print_93 : decode cc_Mo_print 93 = .ok (.iload_n 2, 1) := by decide +kernel
theorem dd_Mo_print_94 : decode cc_Mo_print 94 = .ok (.iadd, 1) := by decide +kernel
theorem dd_Mo_print_95 : decode cc_Mo_print 95 = .ok (.laload, 1) := by decide +kernel
theorem dd_Mo_print_96 : decode cc_Mo_print 96 = .ok (.lconst 0, 1) := by decide +kernel
theorem dd_Mo_print_97 : decode cc_Mo_print 97 = .ok (.lcmp, 1) := by decide +kernel
theorem dd_Mo_print_98 : decode cc_Mo_print 98 = .ok (.ifCond .lt 34, 3) := by decide +kernel
theorem dd_Mo_print_101 : decode cc_Mo_print 101 = .ok (.aload_n 0, 1) := by decide +kernel
theorem dd_Mo_print_102 : decode cc_Mo_print 102 = .ok (.bipush 102, 2) := by decide +kernel
theorem dd_Mo_print_104 : decode cc_Mo_print 104 = .ok (.invokevirtual 188, 3) := by decide +kernel
theorem dd_Mo_print_107 : decode cc_Mo_print 107 = .ok (.aload_n 0, 1) := by decide +kernel
theorem dd_Mo_print_108 : decode cc_Mo_print 108 = .ok (.iload_n 2, 1) := by decide +kernel
theorem dd_Mo_print_109 : decode cc_Mo_print 109 = .ok (.i2l, 1) := by decide +kernel
theorem dd_Mo_print_110 : decode cc_Mo_print 110 = .ok (.bipush 47, 2) := by decide +kernel
theorem dd_Mo_print_112 : decode cc_Mo_print 112 = .ok (.invokevirtual 191, 3) := by decide +kernel
theorem dd_Mo_print_115 : decode cc_Mo_print 115 = .ok (.aload_n 0, 1) := by decide +kernel
theorem dd_Mo_print_116 : decode cc_Mo_print 116 = .ok (.aload_n 0, 1) := by decide +kernel
theorem dd_Mo_print_117 : decode cc_Mo_print 117 = .ok (.getfield 20, 3) := by decide +kernel
theorem dd_Mo_print_120 : decode cc_Mo_print 120 = .ok (.bipush 16, 2) := by decide +kernel
theorem dd_Mo_print_122 : decode cc_Mo_print 122 = .ok (.iload_n 1, 1) := by decide +kernel
theorem dd_Mo_print_123 : decode cc_Mo_print 123 = .ok (.imul, 1) := by decide +kernel
theorem dd_Mo_print_124 : decode cc_Mo_print 124 = .ok (.iload_n 2, 1) := by decide +kernel
theorem dd_Mo_print_125 : decode cc_Mo_print 125 = .ok (.iadd, 1) := by decide +kernel
theorem dd_Mo_print_126 : decode cc_Mo_print 126 = .ok (.laload, 1) := by decide +kernel
theorem dd_Mo_print_127 : decode cc_Mo_print 127 = .ok (.bipush 59, 2) := by decide +kernel
theorem dd_Mo_print_129 : decode cc_Mo_print 129 = .ok (.invokevirtual 191, 3) := by decide +kernel
theorem dd_Mo_print_132 : decode cc_Mo_print 132 = .ok (.iinc 2 1, 3) := by decide +kernel
theorem dd_Mo_print_135 : decode cc_Mo_print 135 = .ok (.goto (-60), 3) := by decide +kernel
theorem dd_Mo_print_138 : decode cc_Mo_print 138 = .ok (.bipush 65, 2) := by decide +kernel
theorem dd_Mo_print_140 : decode cc_Mo_print 140 = .ok (.iload_n 1, 1) := by decide +kernel
theorem dd_Mo_print_141 : decode cc_Mo_print 141 = .ok (.imul, 1) := by decide +kernel
theorem dd_Mo_print_142 : decode cc_Mo_print 142 = .ok (.istore_n 2, 1) := by decide +kernel
theorem dd_Mo_print_143 : decode cc_Mo_print 143 = .ok (.iload_n 2, 1) := by decide +kernel
theorem dd_Mo_print_144 : decode cc_Mo_print 144 = .ok (.bipush 65, 2) := by decide +kernel
theorem dd_Mo_print_146 : decode cc_Mo_print 146 = .ok (.iload_n 1, 1) := by decide +kernel
theorem dd_Mo_print_147 : decode cc_Mo_print 147 = .ok (.imul, 1) := by decide +kernel
theorem dd_Mo_print_148 : decode cc_Mo_print 148 = .ok (.aload_n 0, 1) := by decide +kernel
theorem dd_Mo_print_149 : decode cc_Mo_print 149 = .ok (.getfield 23, 3) := by decide +kernel
theorem dd_Mo_print_152 : decode cc_Mo_print 152 = .ok (.iload_n 1, 1) := by decide +kernel
theorem dd_Mo_print_153 : decode cc_Mo_print 153 = .ok (.iaload, 1) := by decide +kernel
theorem dd_Mo_print_154 : decode cc_Mo_print 154 = .ok (.iadd, 1) := by decide +kernel
theorem dd_Mo_print_155 : decode cc_Mo_print 155 = .ok (.if_icmp .ge 73, 3) := by decide +kernel
theorem dd_Mo_print_158 : decode cc_Mo_print 158 = .ok (.aload_n 0, 1) := by decide +kernel
theorem dd_Mo_print_159 : decode cc_Mo_print 159 = .ok (.aload_n 0, 1) := by decide +kernel
theorem dd_Mo_print_160 : decode cc_Mo_print 160 = .ok (.getfield 26, 3) := by decide +kernel
theorem dd_Mo_print_163 : decode cc_Mo_print 163 = .ok (.iload_n 2, 1) := by decide +kernel
theorem dd_Mo_print_164 : decode cc_Mo_print 164 = .ok (.iaload, 1) := by decide +kernel
theorem dd_Mo_print_165 : decode cc_Mo_print 165 = .ok (.i2l, 1) := by decide +kernel
theorem dd_Mo_print_166 : decode cc_Mo_print 166 = .ok (.bipush 45, 2) := by decide +kernel
theorem dd_Mo_print_168 : decode cc_Mo_print 168 = .ok (.invokevirtual 191, 3) := by decide +kernel
theorem dd_Mo_print_171 : decode cc_Mo_print 171 = .ok (.aload_n 0, 1) := by decide +kernel
theorem dd_Mo_print_172 : decode cc_Mo_print 172 = .ok (.aload_n 0, 1) := by decide +kernel
theorem dd_Mo_print_173 : decode cc_Mo_print 173 = .ok (.getfield 29, 3) := by decide +kernel
theorem dd_Mo_print_176 : decode cc_Mo_print 176 = .ok (.iload_n 2, 1) := by decide +kernel
theorem dd_Mo_print_177 : decode cc_Mo_print 177 = .ok (.iaload, 1) := by decide +kernel
theorem dd_Mo_print_178 : decode cc_Mo_print 178 = .ok (.i2l, 1) := by decide +kernel
theorem dd_Mo_print_179 : decode cc_Mo_print 179 = .ok (.bipush 58, 2) := by decide +kernel
theorem dd_Mo_print_181 : decode cc_Mo_print 181 = .ok (.invokevirtual 191, 3) := by decide +kernel
theorem dd_Mo_print_184 : decode cc_Mo_print 184 = .ok (.aload_n 0, 1) := by decide +kernel
theorem dd_Mo_print_185 : decode cc_Mo_print 185 = .ok (.aload_n 0, 1) := by decide +kernel
theorem dd_Mo_print_186 : decode cc_Mo_print 186 = .ok (.getfield 32, 3) := by decide +kernel
theorem dd_Mo_print_189 : decode cc_Mo_print 189 = .ok (.iload_n 2, 1) := by decide +kernel
theorem dd_Mo_print_190 : decode cc_Mo_print 190 = .ok (.iaload, 1) := by decide +kernel
theorem dd_Mo_print_191 : decode cc_Mo_print 191 = .ok (.invokevirtual 185, 3) := by decide +kernel
theorem dd_Mo_print_194 : decode cc_Mo_print 194 = .ok (.aload_n 0, 1) := by decide +kernel
theorem dd_Mo_print_195 : decode cc_Mo_print 195 = .ok (.aload_n 0, 1) := by decide +kernel
theorem dd_Mo_print_196 : decode cc_Mo_print 196 = .ok (.getfield 35, 3) := by decide +kernel
theorem dd_Mo_print_199 : decode cc_Mo_print 199 = .ok (.iload_n 2, 1) := by decide +kernel
theorem dd_Mo_print_200 : decode cc_Mo_print 200 = .ok (.iaload, 1) := by decide +kernel
theorem dd_Mo_print_201 : decode cc_Mo_print 201 = .ok (.invokevirtual 185, 3) := by decide +kernel
theorem dd_Mo_print_204 : decode cc_Mo_print 204 = .ok (.aload_n 0, 1) := by decide +kernel
theorem dd_Mo_print_205 : decode cc_Mo_print 205 = .ok (.bipush 47, 2) := by decide +kernel
theorem dd_Mo_print_207 : decode cc_Mo_print 207 = .ok (.invokevirtual 188, 3) := by decide +kernel
theorem dd_Mo_print_210 : decode cc_Mo_print 210 = .ok (.aload_n 0, 1) := by decide +kernel
theorem dd_Mo_print_211 : decode cc_Mo_print 211 = .ok (.aload_n 0, 1) := by decide +kernel
theorem dd_Mo_print_212 : decode cc_Mo_print 212 = .ok (.getfield 38, 3) := by decide +kernel
theorem dd_Mo_print_215 : decode cc_Mo_print 215 = .ok (.iload_n 2, 1) := by decide +kernel
theorem dd_Mo_print_216 : decode cc_Mo_print 216 = .ok (.laload, 1) := by decide +kernel
theorem dd_Mo_print_217 : decode cc_Mo_print 217 = .ok (.bipush 59, 2) := by decide +kernel
theorem dd_Mo_print_219 : decode cc_Mo_print 219 = .ok (.invokevirtual 191, 3) := by decide +kernel
theorem dd_Mo_print_222 : decode cc_Mo_print 222 = .ok (.iinc 2 1, 3) := by decide +kernel
theorem dd_Mo_print_225 : decode cc_Mo_print 225 = .ok (.goto (-82), 3) := by decide +kernel
theorem dd_Mo_print_228 : decode cc_Mo_print 228 = .ok (.aload_n 0, 1) := by decide +kernel
theorem dd_Mo_print_229 : decode cc_Mo_print 229 = .ok (.getfield 180, 3) := by decide +kernel
theorem dd_Mo_print_232 : decode cc_Mo_print 232 = .ok (.ireturn, 1) := by decide +kernel
set_option maxRecDepth 100000 in
set_option maxHeartbeats 4000000 in
theorem ct_Mo_sayDigit (l : Launch) (D : va_G) (dA : Nat → ClassId) (ad : Nat → Nat) (h : Nat → va_E) (F : mo_F) (L : mo_L) (S : Nat → Int32) {X : List Nat} {d : Nat} (hX : rs_X F S X) (hd : d < 10) (hl : X.length < 1600) : gx_Ct l D dA yy_Mo_sayDigit cc_Mo_sayDigit 2 none 0 0 0 [.ref (ad 43), .int (nI d)] (gx_w ad (mo_h dA ad h F L S)) (fun v w => v = none ∧ ∃ F2 S2, w = (gx_w ad (mo_h dA ad h F2 L S2)) ∧ rs_X F2 S2 (X ++ [48 + d]) ∧ (∀ k, k ≠ 56 → F2 k = F k) ∧ ∀ k, k ≠ 14 → S2 k = S k) := by
  refine gx_of (by decide) (Nat.le_of_ble_eq_true rfl) (fun K C _ _ => ?_)
  refine gx_aload_n C 0 dd_Mo_sayDigit_0 (kk := ?_)
  refine mo_get C fd_Mo_47 dd_Mo_sayDigit_1 (kk := ?_)
  refine gx_aload_n C 0 dd_Mo_sayDigit_4 (kk := ?_)
  refine mo_get C fd_Mo_180 dd_Mo_sayDigit_5 (kk := ?_)
  refine gx_topi _ hX.1 ?_
  refine gx_bipush (v := nI 48) C dd_Mo_sayDigit_8 (kk := ?_)
  refine gx_iload_n C 1 dd_Mo_sayDigit_10 (kk := ?_)
  refine gx_iadd C dd_Mo_sayDigit_11 (kk := ?_)
  refine gx_topi _ (nI_add _ _) ?_
  refine mo_s56 C dd_Mo_sayDigit_12 (by omega) (kk := fun F12 hF12 => ?_)
  refine gx_aload_n C 0 dd_Mo_sayDigit_13 (kk := ?_)
  refine gx_dup C dd_Mo_sayDigit_14 (kk := ?_)
  refine mo_get C fd_Mo_180 dd_Mo_sayDigit_15 (kk := ?_)
  refine gx_topi _ hX.1 ?_
  refine gx_iconst (v := nI 1) C dd_Mo_sayDigit_18 (kk := ?_)
  refine gx_iadd C dd_Mo_sayDigit_19 (kk := ?_)
  refine gx_topi _ (nI_add _ _) ?_
  refine mo_put_14 C fw_Mo_180 dd_Mo_sayDigit_20 (kk := fun S20 hS20 => ?_)
  refine gx_vret C dd_Mo_sayDigit_23 ?_
  exact ⟨rfl, F12, S20, rfl, rs_X_ad hF12 hS20 (by omega) hl hX, fun k hk => by rw [hF12, gm_un hk], fun k hk => by rw [hS20, gm_un hk]⟩
theorem te_ds_len (n : Nat) : ∀ m u k, u < 10 ^ k → (te_ds n m u).length ≤ k
  | 0, u, k, h => Nat.zero_le _
  | m + 1, u, k, h => by
    unfold te_ds
    split
    · exact Nat.zero_le _
    · cases k with
      | zero => rw [Nat.pow_zero] at h; omega
      | succ k =>
        rw [List.length_cons]
        exact Nat.succ_le_succ (te_ds_len n m (u / 10) k (by rw [Nat.pow_succ] at h; omega))
theorem te_num_len (n : Nat) : (te_num n).length ≤ 10 := by
  unfold te_num
  refine te_ds_len n 11 _ 10 ?_
  have := te_u_le n 9 1
  omega
theorem te_num_16 : ∀ n, n < 17 → (te_num n).length ≤ 2 := by decide
theorem te_num_8 : ∀ n, n < 8 → te_num n = [48 + n] := by decide
theorem te_u_p (n : Nat) : ∀ m u, 0 < u → 0 < te_u n m u
  | 0, u, h => h
  | m + 1, u, h => by
    unfold te_u
    split
    · exact te_u_p n m _ (by omega)
    · exact h
set_option maxRecDepth 100000 in
set_option maxHeartbeats 4000000 in
theorem ct_Mo_sayNumber (l : Launch) (D : va_G) (dA : Nat → ClassId) (ad : Nat → Nat) (h : Nat → va_E) (F : mo_F) (L : mo_L) (S : Nat → Int32) {X : List Nat} {n b : Nat} (hX : rs_X F S X) (hn : n ≤ 1000000000) (hb : b < 65536) (hl : X.length + (te_num n).length + 1 ≤ 1600) : gx_Ct l D dA yy_Mo_sayNumber cc_Mo_sayNumber 6 none 1 0 0 [.ref (ad 43), .long (lN n), .int (nI b)] (gx_w ad (mo_h dA ad h F L S)) (fun v w => v = none ∧ ∃ F2 S2, w = (gx_w ad (mo_h dA ad h F2 L S2)) ∧ rs_X F2 S2 (X ++ (te_num n ++ [b])) ∧ (∀ k, k ≠ 56 → F2 k = F k) ∧ ∀ k, k ≠ 14 → S2 k = S k) := by
  refine gx_of (by decide) (Nat.le_of_ble_eq_true rfl) (fun K C _ _ => ?_)
  refine gx_lconst (v := lN 1) C dd_Mo_sayNumber_0 (kk := ?_)
  refine gx_lstore C _ dd_Mo_sayNumber_1 (kk := ?_)
  have digits : ∀ m u DD F1 S1, u < 10 ^ m → u ≤ 1000000000 → te_num n = DD ++ te_ds n m u → rs_X F1 S1 (X ++ DD) → (∀ k, k ≠ 56 → F1 k = F k) → (∀ k, k ≠ 14 → S1 k = S k) → gx_G K D 6 0 0 25 [(4, .long (lN u)), (0, .ref (ad 43)), (1, .long (lN n)), (3, .int (nI b))] [] (gx_w ad (mo_h dA ad h F1 L S1)) (gx_Z K D dA 0 0 (fun v w => v = none ∧ ∃ F2 S2, w = (gx_w ad (mo_h dA ad h F2 L S2)) ∧ rs_X F2 S2 (X ++ (te_num n ++ [b])) ∧ (∀ k, k ≠ 56 → F2 k = F k) ∧ ∀ k, k ≠ 14 → S2 k = S k)) := by
    intro m
    induction m with
    | zero =>
      intro u DD F1 S1 hum hub hDD hY hF1 hS1
      have hu1 : u = 0 := by rw [Nat.pow_zero] at hum; omega
      have hD0 : te_num n = DD := by rw [hDD]; exact List.append_nil _
      refine gx_lload C 0 dd_Mo_sayNumber_25 (kk := ?_)
      refine gx_lconst (v := lN 0) C dd_Mo_sayNumber_27 (kk := ?_)
      refine gx_lcmp C dd_Mo_sayNumber_28 (kk := ?_)
      refine gx_if_le C 56 dd_Mo_sayNumber_29 (fun h29 => ?_) (fun h29 => absurd (by rw [lc_le, pk_lLE (b := 0) (by omega) (by decide)]; omega) h29)
      refine gx_aload_n C 1 dd_Mo_sayNumber_56 (kk := ?_)
      refine gx_iload_n C 3 dd_Mo_sayNumber_57 (kk := ?_)
      refine gx_callV C (ct_Mo_say (gx_l K) D dA ad h F1 L S1 (X := X ++ DD) (c := b) hY hb (by rw [List.length_append, ← hD0]; omega)) me_Mo_say ml_Mo_188 mn_Mo_say _ (gx_w_at (by decide) mo_h_43) rfl dd_Mo_sayNumber_58 (kk := fun v w hq => ?_)
      obtain ⟨rfl, F2, S2, rfl, hX2, hf2, hs2⟩ := hq
      refine gx_vret C dd_Mo_sayNumber_61 ?_
      refine ⟨rfl, F2, S2, rfl, ?_, fun k hk => (hf2 k hk).trans (hF1 k hk), fun k hk => (hs2 k hk).trans (hS1 k hk)⟩
      rw [hD0, ← List.append_assoc]
      exact hX2
    | succ m ihd =>
      intro u DD F1 S1 hum hub hDD hY hF1 hS1
      refine gx_lload C 0 dd_Mo_sayNumber_25 (kk := ?_)
      by_cases hu0 : u = 0
      · have hD0 : te_num n = DD := by
          rw [hDD, show te_ds n (m + 1) u = [] from if_pos hu0]
          exact List.append_nil _
        refine gx_lconst (v := lN 0) C dd_Mo_sayNumber_27 (kk := ?_)
        refine gx_lcmp C dd_Mo_sayNumber_28 (kk := ?_)
        refine gx_if_le C 56 dd_Mo_sayNumber_29 (fun h29 => ?_) (fun h29 => absurd (by rw [lc_le, pk_lLE (b := 0) (by omega) (by decide)]; omega) h29)
        refine gx_aload_n C 1 dd_Mo_sayNumber_56 (kk := ?_)
        refine gx_iload_n C 3 dd_Mo_sayNumber_57 (kk := ?_)
        refine gx_callV C (ct_Mo_say (gx_l K) D dA ad h F1 L S1 (X := X ++ DD) (c := b) hY hb (by rw [List.length_append, ← hD0]; omega)) me_Mo_say ml_Mo_188 mn_Mo_say _ (gx_w_at (by decide) mo_h_43) rfl dd_Mo_sayNumber_58 (kk := fun v w hq => ?_)
        obtain ⟨rfl, F2, S2, rfl, hX2, hf2, hs2⟩ := hq
        refine gx_vret C dd_Mo_sayNumber_61 ?_
        refine ⟨rfl, F2, S2, rfl, ?_, fun k hk => (hf2 k hk).trans (hF1 k hk), fun k hk => (hs2 k hk).trans (hS1 k hk)⟩
        rw [hD0, ← List.append_assoc]
        exact hX2
      · have hdu := Nat.div_le_self n u
        have hDs : te_ds n (m + 1) u = (48 + n / u % 10) :: te_ds n m (u / 10) := if_neg hu0
        rw [hDs] at hDD
        refine gx_lconst (v := lN 0) C dd_Mo_sayNumber_27 (kk := ?_)
        refine gx_lcmp C dd_Mo_sayNumber_28 (kk := ?_)
        refine gx_if_le C 56 dd_Mo_sayNumber_29 (fun h29 => absurd h29 (by rw [lc_le, pk_lLE (b := 0) (by omega) (by decide)]; omega)) (fun h29 => ?_)
        refine gx_aload_n C 1 dd_Mo_sayNumber_32 (kk := ?_)
        refine gx_lload_n C 2 dd_Mo_sayNumber_33 (kk := ?_)
        refine gx_lload C 0 dd_Mo_sayNumber_34 (kk := ?_)
        refine gx_ldiv C dd_Mo_sayNumber_36 (fun h => hu0 ((pk_lEQ (b := 0) (by omega) (by decide)).mp h)) (kk := ?_)
        refine gx_topl _ (pk_lDiv (by omega) (by omega) (by omega)) ?_
        refine gx_ldc2 C dd_Mo_sayNumber_37 kc_Mo_183 (kk := ?_)
        refine gx_lrem C dd_Mo_sayNumber_40 (kk := ?_)
        refine gx_topl (lN (n / u % 10)) (by rw [show (10 : Int64) = lN 10 from rfl, pk_lRem (Nat.lt_of_le_of_lt (Nat.div_le_self _ _) (by omega)) (by decide) (by decide)]) ?_
        refine gx_l2i C dd_Mo_sayNumber_41 (w := nI (n / u % 10)) (hv := lN_i _) (kk := ?_)
        refine gx_callV C (ct_Mo_sayDigit (gx_l K) D dA ad h F1 L S1 (X := X ++ DD) (d := n / u % 10) hY (by omega) (by have e := congrArg List.length hDD; simp only [List.length_append, List.length_cons] at e ⊢; omega)) me_Mo_sayDigit ml_Mo_185 mn_Mo_sayDigit _ (gx_w_at (by decide) mo_h_43) rfl dd_Mo_sayNumber_42 (kk := fun v w hq => ?_)
        obtain ⟨rfl, F2, S2, rfl, hX2, hf2, hs2⟩ := hq
        refine gx_lload C 0 dd_Mo_sayNumber_45 (kk := ?_)
        refine gx_ldc2 C dd_Mo_sayNumber_47 kc_Mo_183 (kk := ?_)
        refine gx_ldiv C dd_Mo_sayNumber_50 (kk := ?_)
        refine gx_topl (lN (u / 10)) (by rw [show (10 : Int64) = lN 10 from rfl, pk_lDiv (by omega) (by decide) (by decide)]) ?_
        refine gx_lstore C _ dd_Mo_sayNumber_51 (kk := ?_)
        refine gx_goto C 25 dd_Mo_sayNumber_53 (kk := ?_)
        exact ihd (u / 10) (DD ++ [48 + n / u % 10]) F2 S2 (by rw [Nat.pow_succ] at hum; omega) (by omega) (by rw [hDD, List.append_assoc]; rfl) (by rw [← List.append_assoc]; exact hX2) (fun k hk => (hf2 k hk).trans (hF1 k hk)) (fun k hk => (hs2 k hk).trans (hS1 k hk))
  have unit : ∀ m u, te_u n 9 1 = te_u n m u → 0 < u → u * 10 ^ m = 1000000000 → gx_G K D 6 0 0 3 [(4, .long (lN u)), (0, .ref (ad 43)), (1, .long (lN n)), (3, .int (nI b))] [] (gx_w ad (mo_h dA ad h F L S)) (gx_Z K D dA 0 0 (fun v w => v = none ∧ ∃ F2 S2, w = (gx_w ad (mo_h dA ad h F2 L S2)) ∧ rs_X F2 S2 (X ++ (te_num n ++ [b])) ∧ (∀ k, k ≠ 56 → F2 k = F k) ∧ ∀ k, k ≠ 14 → S2 k = S k)) := by
    intro m
    induction m with
    | zero =>
      intro u hU hup hum
      have hu0 : ¬ u = 0 := by omega
      have hdu := Nat.div_le_self n u
      have hu9 : u = 1000000000 := by rw [Nat.pow_zero] at hum; omega
      have hub : u ≤ 1000000000 := by omega
      refine gx_lload_n C 2 dd_Mo_sayNumber_3 (kk := ?_)
      refine gx_lload C 0 dd_Mo_sayNumber_4 (kk := ?_)
      refine gx_ldiv C dd_Mo_sayNumber_6 (fun h => hu0 ((pk_lEQ (b := 0) (by omega) (by decide)).mp h)) (kk := ?_)
      refine gx_topl _ (pk_lDiv (by omega) (by omega) (by omega)) ?_
      refine gx_ldc2 C dd_Mo_sayNumber_7 kc_Mo_183 (kk := ?_)
      refine gx_lcmp C dd_Mo_sayNumber_10 (kk := ?_)
      refine gx_if_lt C 25 dd_Mo_sayNumber_11 (fun h11 => ?_) (fun h11 => absurd (lc_lt.mpr (by rw [show (10 : Int64) = lN 10 from rfl, pk_lLT (by omega) (by decide)]; rw [hu9]; omega)) h11)
      have hUU : te_u n 9 1 = u := hU
      exact digits 11 u [] F S (by omega) (by omega) (by rw [← hUU]; rfl) (by rw [List.append_nil]; exact hX) (fun _ _ => rfl) (fun _ _ => rfl)
    | succ m ihu =>
      intro u hU hup hum
      have hu0 : ¬ u = 0 := by omega
      have hdu := Nat.div_le_self n u
      have hub : u ≤ 1000000000 := by
        have : 1 ≤ 10 ^ (m + 1) := Nat.pos_of_ne_zero (by simp)
        have := Nat.mul_le_mul_left u this
        omega
      refine gx_lload_n C 2 dd_Mo_sayNumber_3 (kk := ?_)
      refine gx_lload C 0 dd_Mo_sayNumber_4 (kk := ?_)
      refine gx_ldiv C dd_Mo_sayNumber_6 (fun h => hu0 ((pk_lEQ (b := 0) (by omega) (by decide)).mp h)) (kk := ?_)
      refine gx_topl _ (pk_lDiv (by omega) (by omega) (by omega)) ?_
      by_cases hc : u * 10 ≤ n
      · have hge : 10 ≤ n / u := (Nat.le_div_iff_mul_le (by omega)).mpr (by omega)
        refine gx_ldc2 C dd_Mo_sayNumber_7 kc_Mo_183 (kk := ?_)
        refine gx_lcmp C dd_Mo_sayNumber_10 (kk := ?_)
        refine gx_if_lt C 25 dd_Mo_sayNumber_11 (fun h11 => absurd (lc_lt.mp h11) (by rw [show (10 : Int64) = lN 10 from rfl, pk_lLT (by omega) (by decide)]; omega)) (fun h11 => ?_)
        refine gx_lload C 0 dd_Mo_sayNumber_14 (kk := ?_)
        refine gx_ldc2 C dd_Mo_sayNumber_16 kc_Mo_183 (kk := ?_)
        refine gx_lmul C dd_Mo_sayNumber_19 (kk := ?_)
        refine gx_topl (lN (u * 10)) (by rw [show (10 : Int64) = lN 10 from rfl, lN_mul]) ?_
        refine gx_lstore C _ dd_Mo_sayNumber_20 (kk := ?_)
        refine gx_goto C 3 dd_Mo_sayNumber_22 (kk := ?_)
        exact ihu (u * 10) (by rw [hU]; exact if_pos hc) (by omega) (by rw [Nat.pow_succ, Nat.mul_comm (10 ^ m) 10, ← Nat.mul_assoc] at hum; exact hum)
      · have hlt : n / u < 10 := by rw [Nat.div_lt_iff_lt_mul (by omega)]; omega
        refine gx_ldc2 C dd_Mo_sayNumber_7 kc_Mo_183 (kk := ?_)
        refine gx_lcmp C dd_Mo_sayNumber_10 (kk := ?_)
        refine gx_if_lt C 25 dd_Mo_sayNumber_11 (fun h11 => ?_) (fun h11 => absurd (lc_lt.mpr (by rw [show (10 : Int64) = lN 10 from rfl, pk_lLT (by omega) (by decide)]; omega)) h11)
        have hUU : te_u n 9 1 = u := hU.trans (if_neg hc)
        exact digits 11 u [] F S (by omega) (by omega) (by rw [← hUU]; rfl) (by rw [List.append_nil]; exact hX) (fun _ _ => rfl) (fun _ _ => rfl)
  exact unit 9 1 rfl (by decide) (by decide)
theorem te_ps_le : ∀ (L X : List Nat), X.length + L.length ≤ 1600 → te_ps X L = X ++ L
  | [], X, h => (List.append_nil X).symm
  | c :: L, X, h => by
    rw [List.length_cons] at h
    show te_ps (te_pt X c) L = _
    rw [te_pt, if_pos (by omega), te_ps_le L (X ++ [c]) (by rw [List.length_append]; show X.length + 1 + L.length ≤ 1600; omega), List.append_assoc]
    rfl
theorem te_sw_len {k q w : Nat} (hq : q < 17) : (te_sw k q w).length ≤ 15 := by
  have h1 := te_num_16 q hq
  have h2 := te_num_len w
  unfold te_sw te_wt
  simp only [List.length_append, List.length_cons, List.length_nil]
  omega
theorem te_es_len (en : Nat → Option Nat) : ∀ n, n ≤ 16 → (te_es en n).length ≤ 15 * n
  | 0, _ => Nat.le_refl _
  | n + 1, h => by
    have ih := te_es_len en n (by omega)
    have h2 : (te_en n (en n)).length ≤ 15 := by
      cases he : en n with
      | none => exact Nat.zero_le _
      | some e => exact te_sw_len (by omega)
    show (te_es en n ++ te_en n (en n)).length ≤ _
    rw [List.length_append]
    omega
theorem te_ar_len {x : Nat × Nat} (hx : x.1 < 16384) : (te_ar x).length ≤ 20 := by
  have h1 := te_num_16 (x.1 / 1024) (by omega)
  have h2 := te_num_16 (x.1 % 16) (by omega)
  have h3 := te_num_8 (x.1 / 128 % 8) (by omega)
  have h4 := te_num_8 (x.1 / 16 % 8) (by omega)
  have h5 := te_num_len x.2
  unfold te_ar te_wt
  rw [h3, h4]
  simp only [List.length_append, List.length_cons, List.length_nil]
  omega
theorem te_as_len {l : List (Nat × Nat)} (hl : ∀ x ∈ l, x.1 < 16384) : ∀ k, k ≤ l.length → (te_as l k).length ≤ 20 * k
  | 0, _ => Nat.le_refl _
  | k + 1, h => by
    have ih := te_as_len hl k (by omega)
    have hx : l[k]? = some l[k] := List.getElem?_eq_getElem (by omega)
    rw [te_as_s hx, List.length_append]
    have := te_ar_len (hl _ (List.getElem_mem (by omega : k < l.length)))
    omega
def te_hd (a : am_T) : List Nat := [110] ++ (te_num (am_n a) ++ ([59] ++ te_st (am_st a)))
theorem te_hd_len {a : am_T} (h : am_ok a) : (te_hd a).length ≤ 19 := by
  have h1 := te_num_16 (am_n a) (by have := h.1.1; omega)
  have h2 : (te_st (am_st a)).length ≤ 15 := by
    cases hs : am_st a with
    | none => exact Nat.zero_le _
    | some x => exact te_sw_len (by have := (h.1.2.2.2.2 x hs).1; omega)
  unfold te_hd
  simp only [List.length_append, List.length_cons, List.length_nil]
  omega
theorem te_all_hd (a : am_T) : te_all a = te_hd a ++ te_es (am_en a) (am_n a) ++ te_as (am_ar a) (am_ar a).length := by
  unfold te_all te_hd
  simp only [List.append_assoc]
theorem mo_is_f {F F2 : mo_F} {L : mo_L} {s : Nat} {a : am_T} (hF : ∀ k, k ≠ 56 → F2 k = F k) (h : mo_is F L s a) : mo_is F2 L s a := by
  unfold mo_is mo_a at h ⊢
  rw [hF 44 (by decide), hF 45 (by decide), hF 48 (by decide), hF 49 (by decide), hF 50 (by decide), hF 51 (by decide), hF 52 (by decide)]
  exact h
theorem mo_sq_f {F F2 : mo_F} {L : mo_L} {s : Nat} {a : am_T} {x : Nat × Nat} (hF : ∀ k, k ≠ 56 → F2 k = F k) (h : mo_is F L s a) (hx : am_st a = some x) : F2 45 s = nI x.1 ∧ L 46 s = lN x.2 := by
  have h1 := (mo_is_f hF h).2.1
  rw [hx] at h1
  exact h1
set_option maxRecDepth 100000 in
set_option maxHeartbeats 4000000 in
theorem ct_Mo_print (l : Launch) (D : va_G) (dA : Nat → ClassId) (ad : Nat → Nat) (h : Nat → va_E) (F : mo_F) (L : mo_L) (S : Nat → Int32) {σ : sg} (hr : rs F L S σ) (hσ : sg_ok σ) (s : Int32) : gx_Ct l D dA yy_Mo_print cc_Mo_print 3 (some .int) 2 0 0 [.ref (ad 43), .int s] (gx_w ad (mo_h dA ad h F L S)) (fun v w => ∃ F2 L2 S2, w = (gx_w ad (mo_h dA ad h F2 L2 S2)) ∧ rs F2 L2 S2 (o_print σ s).2 ∧ v = some (.int (o_print σ s).1)) := by
  refine gx_of (by decide) (Nat.le_of_ble_eq_true rfl) (fun K C _ _ => ?_)
  have hM := hr.1
  have hP := hr.2.1
  have hX := hr.2.2
  refine gx_iload_n C 1 dd_Mo_print_0 (kk := ?_)
  refine gx_callS C (ct_Mo_isSlot (gx_l K) D dA _ s) me_Mo_isSlot ml_Mo_81 ms_Mo_isSlot dd_Mo_print_1 (kk := fun v w hq => ?_)
  obtain ⟨rfl, rfl⟩ := hq
  rcases hi : ix 4 s with _ | i
  · refine gx_if_ne C 9 dd_Mo_print_4 (fun h4 => absurd rfl h4) (fun h4 => ?_)
    refine gx_iconst (v := -1) C dd_Mo_print_7 (kk := ?_)
    refine gx_iret C dd_Mo_print_8 ?_
    have hsp : o_print σ s = (-1, σ) := by
      unfold o_print
      simp only [hi]
    rw [hsp]
    exact ⟨F, L, S, rfl, hr, rfl⟩
  · obtain ⟨hi4, rfl⟩ := ix_of (by decide) hi
    refine gx_if_ne C 9 dd_Mo_print_4 (fun h4 => ?_) (fun h4 => absurd (show true = false from fb_0.mp h4) (by decide))
    refine gx_aload_n C 0 dd_Mo_print_9 (kk := ?_)
    refine gx_iconst (v := nI 0) C dd_Mo_print_10 (kk := ?_)
    refine mo_put_14 C fw_Mo_180 dd_Mo_print_11 (kk := fun S11 hS11 => ?_)
    have hok := hσ.1 i hi4
    have hn16 := hok.1.1
    have hl64 := hok.1.2.1
    have hF1 : ∀ k, k ≠ 56 → F k = F k := fun _ _ => rfl
    have hS1 : ∀ k, k ≠ 14 → S11 k = S k := fun k hk => by rw [hS11, gm_un hk]
    have hX1 : rs_X F S11 [] := ⟨by rw [hS11, gm_us]; rfl, fun j c h => (by cases h), Nat.zero_le _, fun c h => (by cases h)⟩
    have hnl := te_num_16 (am_n (σ.1 i)) (by omega)
    refine gx_aload_n C 0 dd_Mo_print_14 (kk := ?_)
    refine gx_bipush (v := nI 110) C dd_Mo_print_15 (kk := ?_)
    refine gx_callV C (ct_Mo_say (gx_l K) D dA ad h F L S11 (c := 110) hX1 (by decide) (by simp only [List.length_append, List.length_cons, List.length_nil]; omega)) me_Mo_say ml_Mo_188 mn_Mo_say _ (gx_w_at (by decide) mo_h_43) rfl dd_Mo_print_17 (kk := fun v w hq => ?_)
    obtain ⟨rfl, F17, S17, rfl, hX17, hf17, hs17⟩ := hq
    have hF17 : ∀ k, k ≠ 56 → F17 k = F k := fun k hk => (hf17 k hk).trans (hF1 k hk)
    have hS17 : ∀ k, k ≠ 14 → S17 k = S k := fun k hk => (hs17 k hk).trans (hS1 k hk)
    refine gx_aload_n C 0 dd_Mo_print_20 (kk := ?_)
    refine gx_aload_n C 0 dd_Mo_print_21 (kk := ?_)
    refine mo_get C fd_Mo_7 dd_Mo_print_22 (kk := ?_)
    refine gx_iload_n C 1 dd_Mo_print_25 (kk := ?_)
    refine mo_l44 C dd_Mo_print_26 (by omega) (kk := ?_)
    refine gx_topi _ (mo_is_f hF17 (hM i hi4)).1 ?_
    refine gx_i2l C dd_Mo_print_27 (w := lN (am_n (σ.1 i))) (hv := nI_l (by omega)) (kk := ?_)
    refine gx_bipush (v := nI 59) C dd_Mo_print_28 (kk := ?_)
    refine gx_callV C (ct_Mo_sayNumber (gx_l K) D dA ad h F17 L S17 (n := am_n (σ.1 i)) (b := 59) hX17 (by omega) (by decide) (by simp only [List.length_append, List.length_cons, List.length_nil]; omega)) me_Mo_sayNumber ml_Mo_191 mn_Mo_sayNumber _ (gx_w_at (by decide) mo_h_43) rfl dd_Mo_print_30 (kk := fun v w hq => ?_)
    obtain ⟨rfl, F30, S30, rfl, hX30, hf30, hs30⟩ := hq
    have hF30 : ∀ k, k ≠ 56 → F30 k = F k := fun k hk => (hf30 k hk).trans (hF17 k hk)
    have hS30 : ∀ k, k ≠ 14 → S30 k = S k := fun k hk => (hs30 k hk).trans (hS17 k hk)
    have hsq := (mo_is_f hF30 (hM i hi4)).2.1
    rcases hst : am_st (σ.1 i) with _ | xa
    · rw [hst] at hsq
      refine gx_aload_n C 0 dd_Mo_print_33 (kk := ?_)
      refine mo_get C fd_Mo_13 dd_Mo_print_34 (kk := ?_)
      refine gx_iload_n C 1 dd_Mo_print_37 (kk := ?_)
      refine mo_l45 C dd_Mo_print_38 (by omega) (kk := ?_)
      refine gx_topi _ hsq.1 ?_
      refine gx_if_lt C 73 dd_Mo_print_39 (fun h39 => ?_) (fun h39 => absurd (by decide) h39)
      refine gx_iconst (v := nI 0) C dd_Mo_print_73 (kk := ?_)
      refine gx_istore_n C _ dd_Mo_print_74 (kk := ?_)
      have hhd := te_hd_len hok
      have ends : ∀ m q F1 S1, q + m = am_n (σ.1 i) → rs_X F1 S1 (te_hd (σ.1 i) ++ te_es (am_en (σ.1 i)) q) → (∀ k, k ≠ 56 → F1 k = F k) → (∀ k, k ≠ 14 → S1 k = S k) → gx_G K D 3 0 0 75 [(2, .int (nI q)), (0, .ref (ad 43)), (1, .int (nI i))] [] (gx_w ad (mo_h dA ad h F1 L S1)) (gx_Z K D dA 0 0 (fun v w => ∃ F2 L2 S2, w = (gx_w ad (mo_h dA ad h F2 L2 S2)) ∧ rs F2 L2 S2 (o_print σ (nI i)).2 ∧ v = some (.int (o_print σ (nI i)).1))) := by
        intro m
        induction m with
        | zero =>
          intro q F1 S1 hq0 hX1 hF1 hS1
          refine gx_iload_n C 0 dd_Mo_print_75 (kk := ?_)
          refine gx_aload_n C 1 dd_Mo_print_76 (kk := ?_)
          refine mo_get C fd_Mo_7 dd_Mo_print_77 (kk := ?_)
          refine gx_iload_n C 2 dd_Mo_print_80 (kk := ?_)
          refine mo_l44 C dd_Mo_print_81 (by omega) (kk := ?_)
          refine gx_topi _ (mo_is_f hF1 (hM i hi4)).1 ?_
          refine gx_icmp_ge C 138 dd_Mo_print_82 (fun h82 => ?_) (fun h82 => absurd (nI_le (a := am_n (σ.1 i)) (b := q) (by omega) (by omega)) h82)
          refine gx_bipush (v := nI 65) C dd_Mo_print_138 (kk := ?_)
          refine gx_iload_n C 2 dd_Mo_print_140 (kk := ?_)
          refine gx_imul C dd_Mo_print_141 (kk := ?_)
          refine gx_topi _ (pk_mul _ _) ?_
          refine gx_istore_n C _ dd_Mo_print_142 (kk := ?_)
          rw [show q = am_n (σ.1 i) by omega] at hX1
          have hle2 := te_es_len (am_en (σ.1 i)) (am_n (σ.1 i)) (by omega)
          have arcs : ∀ m2 j F1 S1, j + m2 = (am_ar (σ.1 i)).length → rs_X F1 S1 (te_hd (σ.1 i) ++ te_es (am_en (σ.1 i)) (am_n (σ.1 i)) ++ te_as (am_ar (σ.1 i)) j) → (∀ k, k ≠ 56 → F1 k = F k) → (∀ k, k ≠ 14 → S1 k = S k) → gx_G K D 3 0 0 143 [(2, .int (nI (65 * i + j))), (0, .ref (ad 43)), (1, .int (nI i))] [] (gx_w ad (mo_h dA ad h F1 L S1)) (gx_Z K D dA 0 0 (fun v w => ∃ F2 L2 S2, w = (gx_w ad (mo_h dA ad h F2 L2 S2)) ∧ rs F2 L2 S2 (o_print σ (nI i)).2 ∧ v = some (.int (o_print σ (nI i)).1))) := by
            intro m2
            induction m2 with
            | zero =>
              intro j F1 S1 hj hX1 hF1 hS1
              refine gx_iload_n C 0 dd_Mo_print_143 (kk := ?_)
              refine gx_bipush (v := nI 65) C dd_Mo_print_144 (kk := ?_)
              refine gx_iload_n C 2 dd_Mo_print_146 (kk := ?_)
              refine gx_imul C dd_Mo_print_147 (kk := ?_)
              refine gx_topi _ (pk_mul _ _) ?_
              refine gx_aload_n C 1 dd_Mo_print_148 (kk := ?_)
              refine mo_get C fd_Mo_23 dd_Mo_print_149 (kk := ?_)
              refine gx_iload_n C 2 dd_Mo_print_152 (kk := ?_)
              refine mo_l48 C dd_Mo_print_153 (by omega) (kk := ?_)
              refine gx_topi _ (mo_is_f hF1 (hM i hi4)).2.2.2.1 ?_
              refine gx_iadd C dd_Mo_print_154 (kk := ?_)
              refine gx_topi _ (nI_add _ _) ?_
              refine gx_icmp_ge C 228 dd_Mo_print_155 (fun h155 => ?_) (fun h155 => absurd (nI_le (a := 65 * i + (am_ar (σ.1 i)).length) (b := 65 * i + j) (by omega) (by omega)) h155)
              refine gx_aload_n C 1 dd_Mo_print_228 (kk := ?_)
              refine mo_get C fd_Mo_180 dd_Mo_print_229 (kk := ?_)
              refine gx_topi _ hX1.1 ?_
              refine gx_iret C dd_Mo_print_232 ?_
              rw [show j = (am_ar (σ.1 i)).length by omega, ← te_all_hd] at hX1
              have hps : te_ps [] (te_all (σ.1 i)) = te_all (σ.1 i) := te_ps_le _ [] (by show 0 + _ ≤ 1600; have := hX1.2.2.1; omega)
              have hsp : o_print σ (nI i) = (nI (te_all (σ.1 i)).length, (σ.1, σ.2.1, te_all (σ.1 i))) := by
                unfold o_print
                simp only [hi, hps]
              rw [hsp]
              exact ⟨F1, L, S1, rfl, rs_feed hr hF1 hS1 hX1, by rw [show j = (am_ar (σ.1 i)).length by omega, ← te_all_hd]⟩
            | succ m2 ihj =>
              intro j F1 S1 hj hX1 hF1 hS1
              obtain ⟨x, hx⟩ : ∃ x, (am_ar (σ.1 i))[j]? = some x := ⟨_, List.getElem?_eq_getElem (by omega)⟩
              have hxb := hok.1.2.2.1 x (List.mem_of_getElem? hx)
              have hn1 := te_num_16 (x.1 / 1024) (by omega)
              have hn2 := te_num_16 (x.1 % 16) (by omega)
              have hn5 := te_num_len x.2
              have hlen := te_as_len (fun x hx => (hok.1.2.2.1 x hx).1) j (by omega)
              refine gx_iload_n C 0 dd_Mo_print_143 (kk := ?_)
              refine gx_bipush (v := nI 65) C dd_Mo_print_144 (kk := ?_)
              refine gx_iload_n C 2 dd_Mo_print_146 (kk := ?_)
              refine gx_imul C dd_Mo_print_147 (kk := ?_)
              refine gx_topi _ (pk_mul _ _) ?_
              refine gx_aload_n C 1 dd_Mo_print_148 (kk := ?_)
              refine mo_get C fd_Mo_23 dd_Mo_print_149 (kk := ?_)
              refine gx_iload_n C 2 dd_Mo_print_152 (kk := ?_)
              refine mo_l48 C dd_Mo_print_153 (by omega) (kk := ?_)
              refine gx_topi _ (mo_is_f hF1 (hM i hi4)).2.2.2.1 ?_
              refine gx_iadd C dd_Mo_print_154 (kk := ?_)
              refine gx_topi _ (nI_add _ _) ?_
              refine gx_icmp_ge C 228 dd_Mo_print_155 (fun h155 => absurd h155 (nI_ge (by omega) (by omega))) (fun h155 => ?_)
              refine gx_aload_n C 1 dd_Mo_print_158 (kk := ?_)
              refine gx_aload_n C 1 dd_Mo_print_159 (kk := ?_)
              refine mo_get C fd_Mo_26 dd_Mo_print_160 (kk := ?_)
              refine gx_iload_n C 0 dd_Mo_print_163 (kk := ?_)
              refine mo_l49 C dd_Mo_print_164 (by omega) (kk := ?_)
              refine gx_topi _ ((mo_is_f hF1 (hM i hi4)).2.2.2.2.1 j x hx).1 ?_
              refine gx_i2l C dd_Mo_print_165 (w := lN (x.1 / 1024)) (hv := nI_l (by omega)) (kk := ?_)
              refine gx_bipush (v := nI 45) C dd_Mo_print_166 (kk := ?_)
              refine gx_callV C (ct_Mo_sayNumber (gx_l K) D dA ad h F1 L S1 (n := x.1 / 1024) (b := 45) hX1 (by omega) (by decide) (by simp only [List.length_append, List.length_cons, List.length_nil]; omega)) me_Mo_sayNumber ml_Mo_191 mn_Mo_sayNumber _ (gx_w_at (by decide) mo_h_43) rfl dd_Mo_print_168 (kk := fun v w hq => ?_)
              obtain ⟨rfl, F168, S168, rfl, hX168, hf168, hs168⟩ := hq
              have hF168 : ∀ k, k ≠ 56 → F168 k = F k := fun k hk => (hf168 k hk).trans (hF1 k hk)
              have hS168 : ∀ k, k ≠ 14 → S168 k = S k := fun k hk => (hs168 k hk).trans (hS1 k hk)
              refine gx_aload_n C 1 dd_Mo_print_171 (kk := ?_)
              refine gx_aload_n C 1 dd_Mo_print_172 (kk := ?_)
              refine mo_get C fd_Mo_29 dd_Mo_print_173 (kk := ?_)
              refine gx_iload_n C 0 dd_Mo_print_176 (kk := ?_)
              refine mo_l50 C dd_Mo_print_177 (by omega) (kk := ?_)
              refine gx_topi _ ((mo_is_f hF168 (hM i hi4)).2.2.2.2.1 j x hx).2.1 ?_
              refine gx_i2l C dd_Mo_print_178 (w := lN (x.1 % 16)) (hv := nI_l (by omega)) (kk := ?_)
              refine gx_bipush (v := nI 58) C dd_Mo_print_179 (kk := ?_)
              refine gx_callV C (ct_Mo_sayNumber (gx_l K) D dA ad h F168 L S168 (n := x.1 % 16) (b := 58) hX168 (by omega) (by decide) (by simp only [List.length_append, List.length_cons, List.length_nil]; omega)) me_Mo_sayNumber ml_Mo_191 mn_Mo_sayNumber _ (gx_w_at (by decide) mo_h_43) rfl dd_Mo_print_181 (kk := fun v w hq => ?_)
              obtain ⟨rfl, F181, S181, rfl, hX181, hf181, hs181⟩ := hq
              have hF181 : ∀ k, k ≠ 56 → F181 k = F k := fun k hk => (hf181 k hk).trans (hF168 k hk)
              have hS181 : ∀ k, k ≠ 14 → S181 k = S k := fun k hk => (hs181 k hk).trans (hS168 k hk)
              refine gx_aload_n C 1 dd_Mo_print_184 (kk := ?_)
              refine gx_aload_n C 1 dd_Mo_print_185 (kk := ?_)
              refine mo_get C fd_Mo_32 dd_Mo_print_186 (kk := ?_)
              refine gx_iload_n C 0 dd_Mo_print_189 (kk := ?_)
              refine mo_l51 C dd_Mo_print_190 (by omega) (kk := ?_)
              refine gx_topi _ ((mo_is_f hF181 (hM i hi4)).2.2.2.2.1 j x hx).2.2.1 ?_
              refine gx_callV C (ct_Mo_sayDigit (gx_l K) D dA ad h F181 L S181 (d := x.1 / 128 % 8) hX181 (by omega) (by simp only [List.length_append, List.length_cons, List.length_nil]; omega)) me_Mo_sayDigit ml_Mo_185 mn_Mo_sayDigit _ (gx_w_at (by decide) mo_h_43) rfl dd_Mo_print_191 (kk := fun v w hq => ?_)
              obtain ⟨rfl, F191, S191, rfl, hX191, hf191, hs191⟩ := hq
              have hF191 : ∀ k, k ≠ 56 → F191 k = F k := fun k hk => (hf191 k hk).trans (hF181 k hk)
              have hS191 : ∀ k, k ≠ 14 → S191 k = S k := fun k hk => (hs191 k hk).trans (hS181 k hk)
              refine gx_aload_n C 1 dd_Mo_print_194 (kk := ?_)
              refine gx_aload_n C 1 dd_Mo_print_195 (kk := ?_)
              refine mo_get C fd_Mo_35 dd_Mo_print_196 (kk := ?_)
              refine gx_iload_n C 0 dd_Mo_print_199 (kk := ?_)
              refine mo_l52 C dd_Mo_print_200 (by omega) (kk := ?_)
              refine gx_topi _ ((mo_is_f hF191 (hM i hi4)).2.2.2.2.1 j x hx).2.2.2.1 ?_
              refine gx_callV C (ct_Mo_sayDigit (gx_l K) D dA ad h F191 L S191 (d := x.1 / 16 % 8) hX191 (by omega) (by simp only [List.length_append, List.length_cons, List.length_nil]; omega)) me_Mo_sayDigit ml_Mo_185 mn_Mo_sayDigit _ (gx_w_at (by decide) mo_h_43) rfl dd_Mo_print_201 (kk := fun v w hq => ?_)
              obtain ⟨rfl, F201, S201, rfl, hX201, hf201, hs201⟩ := hq
              have hF201 : ∀ k, k ≠ 56 → F201 k = F k := fun k hk => (hf201 k hk).trans (hF191 k hk)
              have hS201 : ∀ k, k ≠ 14 → S201 k = S k := fun k hk => (hs201 k hk).trans (hS191 k hk)
              refine gx_aload_n C 1 dd_Mo_print_204 (kk := ?_)
              refine gx_bipush (v := nI 47) C dd_Mo_print_205 (kk := ?_)
              refine gx_callV C (ct_Mo_say (gx_l K) D dA ad h F201 L S201 (c := 47) hX201 (by decide) (by simp only [List.length_append, List.length_cons, List.length_nil]; omega)) me_Mo_say ml_Mo_188 mn_Mo_say _ (gx_w_at (by decide) mo_h_43) rfl dd_Mo_print_207 (kk := fun v w hq => ?_)
              obtain ⟨rfl, F207, S207, rfl, hX207, hf207, hs207⟩ := hq
              have hF207 : ∀ k, k ≠ 56 → F207 k = F k := fun k hk => (hf207 k hk).trans (hF201 k hk)
              have hS207 : ∀ k, k ≠ 14 → S207 k = S k := fun k hk => (hs207 k hk).trans (hS201 k hk)
              refine gx_aload_n C 1 dd_Mo_print_210 (kk := ?_)
              refine gx_aload_n C 1 dd_Mo_print_211 (kk := ?_)
              refine mo_get C fd_Mo_38 dd_Mo_print_212 (kk := ?_)
              refine gx_iload_n C 0 dd_Mo_print_215 (kk := ?_)
              refine mo_l53 C dd_Mo_print_216 (by omega) (kk := ?_)
              refine gx_topl _ ((mo_is_f hF207 (hM i hi4)).2.2.2.2.1 j x hx).2.2.2.2 ?_
              refine gx_bipush (v := nI 59) C dd_Mo_print_217 (kk := ?_)
              refine gx_callV C (ct_Mo_sayNumber (gx_l K) D dA ad h F207 L S207 (n := x.2) (b := 59) hX207 (by omega) (by decide) (by simp only [List.length_append, List.length_cons, List.length_nil]; omega)) me_Mo_sayNumber ml_Mo_191 mn_Mo_sayNumber _ (gx_w_at (by decide) mo_h_43) rfl dd_Mo_print_219 (kk := fun v w hq => ?_)
              obtain ⟨rfl, F219, S219, rfl, hX219, hf219, hs219⟩ := hq
              have hF219 : ∀ k, k ≠ 56 → F219 k = F k := fun k hk => (hf219 k hk).trans (hF207 k hk)
              have hS219 : ∀ k, k ≠ 14 → S219 k = S k := fun k hk => (hs219 k hk).trans (hS207 k hk)
              refine gx_iinc C 0 (nI (65 * i + (j + 1))) _ dd_Mo_print_222 (nI_1 _) (kk := ?_)
              refine gx_goto C 143 dd_Mo_print_225 (kk := ?_)
              refine ihj (j + 1) F219 S219 (by omega) ?_ hF219 hS219
              rw [te_as_s hx]
              unfold te_ar te_wt
              rw [te_num_8 (x.1 / 128 % 8) (by omega), te_num_8 (x.1 / 16 % 8) (by omega)]
              simp only [List.append_assoc] at hX219 ⊢
              exact hX219
          exact arcs (am_ar (σ.1 i)).length 0 F1 S1 (by omega) (by show rs_X F1 S1 (_ ++ []); rw [List.append_nil]; exact hX1) hF1 hS1
        | succ m ihe =>
          intro q F1 S1 hq0 hX1 hF1 hS1
          have hlen := te_es_len (am_en (σ.1 i)) q (by omega)
          refine gx_iload_n C 0 dd_Mo_print_75 (kk := ?_)
          refine gx_aload_n C 1 dd_Mo_print_76 (kk := ?_)
          refine mo_get C fd_Mo_7 dd_Mo_print_77 (kk := ?_)
          refine gx_iload_n C 2 dd_Mo_print_80 (kk := ?_)
          refine mo_l44 C dd_Mo_print_81 (by omega) (kk := ?_)
          refine gx_topi _ (mo_is_f hF1 (hM i hi4)).1 ?_
          refine gx_icmp_ge C 138 dd_Mo_print_82 (fun h82 => absurd h82 (nI_ge (by omega) (by omega))) (fun h82 => ?_)
          have heq0 := (mo_is_f hF1 (hM i hi4)).2.2.1 q (by omega)
          rcases heq : am_en (σ.1 i) q with _ | e
          · rw [heq] at heq0
            refine gx_aload_n C 1 dd_Mo_print_85 (kk := ?_)
            refine mo_get C fd_Mo_20 dd_Mo_print_86 (kk := ?_)
            refine gx_bipush (v := nI 16) C dd_Mo_print_89 (kk := ?_)
            refine gx_iload_n C 2 dd_Mo_print_91 (kk := ?_)
            refine gx_imul C dd_Mo_print_92 (kk := ?_)
            refine gx_topi _ (pk_mul _ _) ?_
            refine gx_iload_n C 0 dd_Mo_print_93 (kk := ?_)
            refine gx_iadd C dd_Mo_print_94 (kk := ?_)
            refine gx_topi _ (nI_add _ _) ?_
            refine mo_l47 C dd_Mo_print_95 (by omega) (kk := ?_)
            refine gx_topl _ heq0 ?_
            refine gx_lconst (v := lN 0) C dd_Mo_print_96 (kk := ?_)
            refine gx_lcmp C dd_Mo_print_97 (kk := ?_)
            refine gx_if_lt C 132 dd_Mo_print_98 (fun h98 => ?_) (fun h98 => absurd (by decide) h98)
            refine gx_iinc C 0 (nI (q + 1)) _ dd_Mo_print_132 (nI_1 _) (kk := ?_)
            refine gx_goto C 75 dd_Mo_print_135 (kk := ?_)
            refine ihe (q + 1) F1 S1 (by omega) ?_ hF1 hS1
            rw [show te_es (am_en (σ.1 i)) (q + 1) = te_es (am_en (σ.1 i)) q ++ te_en q (am_en (σ.1 i) q) from rfl, heq]
            show rs_X F1 S1 (_ ++ (_ ++ []))
            rw [List.append_nil]
            exact hX1
          · rw [heq] at heq0
            have heb := hok.1.2.2.2.1 _ _ heq
            have hn1 := te_num_16 q (by omega)
            have hn2 := te_num_len e
            refine gx_aload_n C 1 dd_Mo_print_85 (kk := ?_)
            refine mo_get C fd_Mo_20 dd_Mo_print_86 (kk := ?_)
            refine gx_bipush (v := nI 16) C dd_Mo_print_89 (kk := ?_)
            refine gx_iload_n C 2 dd_Mo_print_91 (kk := ?_)
            refine gx_imul C dd_Mo_print_92 (kk := ?_)
            refine gx_topi _ (pk_mul _ _) ?_
            refine gx_iload_n C 0 dd_Mo_print_93 (kk := ?_)
            refine gx_iadd C dd_Mo_print_94 (kk := ?_)
            refine gx_topi _ (nI_add _ _) ?_
            refine mo_l47 C dd_Mo_print_95 (by omega) (kk := ?_)
            refine gx_topl _ heq0 ?_
            refine gx_lconst (v := lN 0) C dd_Mo_print_96 (kk := ?_)
            refine gx_lcmp C dd_Mo_print_97 (kk := ?_)
            refine gx_if_lt C 132 dd_Mo_print_98 (fun h98 => absurd (lc_lt.mp h98) (by show ¬ lN e < lN 0; rw [pk_lLT (by omega) (by decide)]; omega)) (fun h98 => ?_)
            refine gx_aload_n C 1 dd_Mo_print_101 (kk := ?_)
            refine gx_bipush (v := nI 102) C dd_Mo_print_102 (kk := ?_)
            refine gx_callV C (ct_Mo_say (gx_l K) D dA ad h F1 L S1 (c := 102) hX1 (by decide) (by simp only [List.length_append, List.length_cons, List.length_nil]; omega)) me_Mo_say ml_Mo_188 mn_Mo_say _ (gx_w_at (by decide) mo_h_43) rfl dd_Mo_print_104 (kk := fun v w hq => ?_)
            obtain ⟨rfl, F104, S104, rfl, hX104, hf104, hs104⟩ := hq
            have hF104 : ∀ k, k ≠ 56 → F104 k = F k := fun k hk => (hf104 k hk).trans (hF1 k hk)
            have hS104 : ∀ k, k ≠ 14 → S104 k = S k := fun k hk => (hs104 k hk).trans (hS1 k hk)
            refine gx_aload_n C 1 dd_Mo_print_107 (kk := ?_)
            refine gx_iload_n C 0 dd_Mo_print_108 (kk := ?_)
            refine gx_i2l C dd_Mo_print_109 (w := lN (q)) (hv := nI_l (by omega)) (kk := ?_)
            refine gx_bipush (v := nI 47) C dd_Mo_print_110 (kk := ?_)
            refine gx_callV C (ct_Mo_sayNumber (gx_l K) D dA ad h F104 L S104 (n := q) (b := 47) hX104 (by omega) (by decide) (by simp only [List.length_append, List.length_cons, List.length_nil]; omega)) me_Mo_sayNumber ml_Mo_191 mn_Mo_sayNumber _ (gx_w_at (by decide) mo_h_43) rfl dd_Mo_print_112 (kk := fun v w hq => ?_)
            obtain ⟨rfl, F112, S112, rfl, hX112, hf112, hs112⟩ := hq
            have hF112 : ∀ k, k ≠ 56 → F112 k = F k := fun k hk => (hf112 k hk).trans (hF104 k hk)
            have hS112 : ∀ k, k ≠ 14 → S112 k = S k := fun k hk => (hs112 k hk).trans (hS104 k hk)
            refine gx_aload_n C 1 dd_Mo_print_115 (kk := ?_)
            refine gx_aload_n C 1 dd_Mo_print_116 (kk := ?_)
            refine mo_get C fd_Mo_20 dd_Mo_print_117 (kk := ?_)
            refine gx_bipush (v := nI 16) C dd_Mo_print_120 (kk := ?_)
            refine gx_iload_n C 2 dd_Mo_print_122 (kk := ?_)
            refine gx_imul C dd_Mo_print_123 (kk := ?_)
            refine gx_topi _ (pk_mul _ _) ?_
            refine gx_iload_n C 0 dd_Mo_print_124 (kk := ?_)
            refine gx_iadd C dd_Mo_print_125 (kk := ?_)
            refine gx_topi _ (nI_add _ _) ?_
            refine mo_l47 C dd_Mo_print_126 (by omega) (kk := ?_)
            refine gx_topl (lN e) (((mo_is_f hF112 (hM i hi4)).2.2.1 q (by omega)).trans (by rw [heq]; rfl)) ?_
            refine gx_bipush (v := nI 59) C dd_Mo_print_127 (kk := ?_)
            refine gx_callV C (ct_Mo_sayNumber (gx_l K) D dA ad h F112 L S112 (n := e) (b := 59) hX112 (by omega) (by decide) (by simp only [List.length_append, List.length_cons, List.length_nil]; omega)) me_Mo_sayNumber ml_Mo_191 mn_Mo_sayNumber _ (gx_w_at (by decide) mo_h_43) rfl dd_Mo_print_129 (kk := fun v w hq => ?_)
            obtain ⟨rfl, F129, S129, rfl, hX129, hf129, hs129⟩ := hq
            have hF129 : ∀ k, k ≠ 56 → F129 k = F k := fun k hk => (hf129 k hk).trans (hF112 k hk)
            have hS129 : ∀ k, k ≠ 14 → S129 k = S k := fun k hk => (hs129 k hk).trans (hS112 k hk)
            refine gx_iinc C 0 (nI (q + 1)) _ dd_Mo_print_132 (nI_1 _) (kk := ?_)
            refine gx_goto C 75 dd_Mo_print_135 (kk := ?_)
            refine ihe (q + 1) F129 S129 (by omega) ?_ hF129 hS129
            rw [show te_es (am_en (σ.1 i)) (q + 1) = te_es (am_en (σ.1 i)) q ++ te_en q (am_en (σ.1 i) q) from rfl, heq]
            show rs_X F129 S129 (_ ++ (_ ++ te_sw 102 q e))
            unfold te_sw te_wt
            simp only [List.append_assoc] at hX129 ⊢
            exact hX129
      refine ends (am_n (σ.1 i)) 0 F30 S30 (by omega) ?_ hF30 hS30
      unfold te_hd
      rw [hst]
      show rs_X F30 S30 ([110] ++ (te_num (am_n (σ.1 i)) ++ ([59] ++ [])) ++ [])
      simp only [List.append_nil, List.nil_append] at hX30 ⊢
      exact hX30
    · rw [hst] at hsq
      have hxab := hok.1.2.2.2.2 xa hst
      have hn3 := te_num_16 xa.1 (by omega)
      have hn4 := te_num_len xa.2
      refine gx_aload_n C 0 dd_Mo_print_33 (kk := ?_)
      refine mo_get C fd_Mo_13 dd_Mo_print_34 (kk := ?_)
      refine gx_iload_n C 1 dd_Mo_print_37 (kk := ?_)
      refine mo_l45 C dd_Mo_print_38 (by omega) (kk := ?_)
      refine gx_topi _ hsq.1 ?_
      refine gx_if_lt C 73 dd_Mo_print_39 (fun h39 => absurd h39 (nI_pos (by omega))) (fun h39 => ?_)
      refine gx_aload_n C 0 dd_Mo_print_42 (kk := ?_)
      refine gx_bipush (v := nI 115) C dd_Mo_print_43 (kk := ?_)
      refine gx_callV C (ct_Mo_say (gx_l K) D dA ad h F30 L S30 (c := 115) hX30 (by decide) (by simp only [List.length_append, List.length_cons, List.length_nil]; omega)) me_Mo_say ml_Mo_188 mn_Mo_say _ (gx_w_at (by decide) mo_h_43) rfl dd_Mo_print_45 (kk := fun v w hq => ?_)
      obtain ⟨rfl, F45, S45, rfl, hX45, hf45, hs45⟩ := hq
      have hF45 : ∀ k, k ≠ 56 → F45 k = F k := fun k hk => (hf45 k hk).trans (hF30 k hk)
      have hS45 : ∀ k, k ≠ 14 → S45 k = S k := fun k hk => (hs45 k hk).trans (hS30 k hk)
      refine gx_aload_n C 0 dd_Mo_print_48 (kk := ?_)
      refine gx_aload_n C 0 dd_Mo_print_49 (kk := ?_)
      refine mo_get C fd_Mo_13 dd_Mo_print_50 (kk := ?_)
      refine gx_iload_n C 1 dd_Mo_print_53 (kk := ?_)
      refine mo_l45 C dd_Mo_print_54 (by omega) (kk := ?_)
      refine gx_topi (nI xa.1) ((mo_sq_f hF45 (hM i hi4) hst).1) ?_
      refine gx_i2l C dd_Mo_print_55 (w := lN (xa.1)) (hv := nI_l (by omega)) (kk := ?_)
      refine gx_bipush (v := nI 47) C dd_Mo_print_56 (kk := ?_)
      refine gx_callV C (ct_Mo_sayNumber (gx_l K) D dA ad h F45 L S45 (n := xa.1) (b := 47) hX45 (by omega) (by decide) (by simp only [List.length_append, List.length_cons, List.length_nil]; omega)) me_Mo_sayNumber ml_Mo_191 mn_Mo_sayNumber _ (gx_w_at (by decide) mo_h_43) rfl dd_Mo_print_58 (kk := fun v w hq => ?_)
      obtain ⟨rfl, F58, S58, rfl, hX58, hf58, hs58⟩ := hq
      have hF58 : ∀ k, k ≠ 56 → F58 k = F k := fun k hk => (hf58 k hk).trans (hF45 k hk)
      have hS58 : ∀ k, k ≠ 14 → S58 k = S k := fun k hk => (hs58 k hk).trans (hS45 k hk)
      refine gx_aload_n C 0 dd_Mo_print_61 (kk := ?_)
      refine gx_aload_n C 0 dd_Mo_print_62 (kk := ?_)
      refine mo_get C fd_Mo_16 dd_Mo_print_63 (kk := ?_)
      refine gx_iload_n C 1 dd_Mo_print_66 (kk := ?_)
      refine mo_l46 C dd_Mo_print_67 (by omega) (kk := ?_)
      refine gx_topl (lN xa.2) ((mo_sq_f hF58 (hM i hi4) hst).2) ?_
      refine gx_bipush (v := nI 59) C dd_Mo_print_68 (kk := ?_)
      refine gx_callV C (ct_Mo_sayNumber (gx_l K) D dA ad h F58 L S58 (n := xa.2) (b := 59) hX58 (by omega) (by decide) (by simp only [List.length_append, List.length_cons, List.length_nil]; omega)) me_Mo_sayNumber ml_Mo_191 mn_Mo_sayNumber _ (gx_w_at (by decide) mo_h_43) rfl dd_Mo_print_70 (kk := fun v w hq => ?_)
      obtain ⟨rfl, F70, S70, rfl, hX70, hf70, hs70⟩ := hq
      have hF70 : ∀ k, k ≠ 56 → F70 k = F k := fun k hk => (hf70 k hk).trans (hF58 k hk)
      have hS70 : ∀ k, k ≠ 14 → S70 k = S k := fun k hk => (hs70 k hk).trans (hS58 k hk)
      refine gx_iconst (v := nI 0) C dd_Mo_print_73 (kk := ?_)
      refine gx_istore_n C _ dd_Mo_print_74 (kk := ?_)
      have hhd := te_hd_len hok
      have ends : ∀ m q F1 S1, q + m = am_n (σ.1 i) → rs_X F1 S1 (te_hd (σ.1 i) ++ te_es (am_en (σ.1 i)) q) → (∀ k, k ≠ 56 → F1 k = F k) → (∀ k, k ≠ 14 → S1 k = S k) → gx_G K D 3 0 0 75 [(2, .int (nI q)), (0, .ref (ad 43)), (1, .int (nI i))] [] (gx_w ad (mo_h dA ad h F1 L S1)) (gx_Z K D dA 0 0 (fun v w => ∃ F2 L2 S2, w = (gx_w ad (mo_h dA ad h F2 L2 S2)) ∧ rs F2 L2 S2 (o_print σ (nI i)).2 ∧ v = some (.int (o_print σ (nI i)).1))) := by
        intro m
        induction m with
        | zero =>
          intro q F1 S1 hq0 hX1 hF1 hS1
          refine gx_iload_n C 0 dd_Mo_print_75 (kk := ?_)
          refine gx_aload_n C 1 dd_Mo_print_76 (kk := ?_)
          refine mo_get C fd_Mo_7 dd_Mo_print_77 (kk := ?_)
          refine gx_iload_n C 2 dd_Mo_print_80 (kk := ?_)
          refine mo_l44 C dd_Mo_print_81 (by omega) (kk := ?_)
          refine gx_topi _ (mo_is_f hF1 (hM i hi4)).1 ?_
          refine gx_icmp_ge C 138 dd_Mo_print_82 (fun h82 => ?_) (fun h82 => absurd (nI_le (a := am_n (σ.1 i)) (b := q) (by omega) (by omega)) h82)
          refine gx_bipush (v := nI 65) C dd_Mo_print_138 (kk := ?_)
          refine gx_iload_n C 2 dd_Mo_print_140 (kk := ?_)
          refine gx_imul C dd_Mo_print_141 (kk := ?_)
          refine gx_topi _ (pk_mul _ _) ?_
          refine gx_istore_n C _ dd_Mo_print_142 (kk := ?_)
          rw [show q = am_n (σ.1 i) by omega] at hX1
          have hle2 := te_es_len (am_en (σ.1 i)) (am_n (σ.1 i)) (by omega)
          have arcs : ∀ m2 j F1 S1, j + m2 = (am_ar (σ.1 i)).length → rs_X F1 S1 (te_hd (σ.1 i) ++ te_es (am_en (σ.1 i)) (am_n (σ.1 i)) ++ te_as (am_ar (σ.1 i)) j) → (∀ k, k ≠ 56 → F1 k = F k) → (∀ k, k ≠ 14 → S1 k = S k) → gx_G K D 3 0 0 143 [(2, .int (nI (65 * i + j))), (0, .ref (ad 43)), (1, .int (nI i))] [] (gx_w ad (mo_h dA ad h F1 L S1)) (gx_Z K D dA 0 0 (fun v w => ∃ F2 L2 S2, w = (gx_w ad (mo_h dA ad h F2 L2 S2)) ∧ rs F2 L2 S2 (o_print σ (nI i)).2 ∧ v = some (.int (o_print σ (nI i)).1))) := by
            intro m2
            induction m2 with
            | zero =>
              intro j F1 S1 hj hX1 hF1 hS1
              refine gx_iload_n C 0 dd_Mo_print_143 (kk := ?_)
              refine gx_bipush (v := nI 65) C dd_Mo_print_144 (kk := ?_)
              refine gx_iload_n C 2 dd_Mo_print_146 (kk := ?_)
              refine gx_imul C dd_Mo_print_147 (kk := ?_)
              refine gx_topi _ (pk_mul _ _) ?_
              refine gx_aload_n C 1 dd_Mo_print_148 (kk := ?_)
              refine mo_get C fd_Mo_23 dd_Mo_print_149 (kk := ?_)
              refine gx_iload_n C 2 dd_Mo_print_152 (kk := ?_)
              refine mo_l48 C dd_Mo_print_153 (by omega) (kk := ?_)
              refine gx_topi _ (mo_is_f hF1 (hM i hi4)).2.2.2.1 ?_
              refine gx_iadd C dd_Mo_print_154 (kk := ?_)
              refine gx_topi _ (nI_add _ _) ?_
              refine gx_icmp_ge C 228 dd_Mo_print_155 (fun h155 => ?_) (fun h155 => absurd (nI_le (a := 65 * i + (am_ar (σ.1 i)).length) (b := 65 * i + j) (by omega) (by omega)) h155)
              refine gx_aload_n C 1 dd_Mo_print_228 (kk := ?_)
              refine mo_get C fd_Mo_180 dd_Mo_print_229 (kk := ?_)
              refine gx_topi _ hX1.1 ?_
              refine gx_iret C dd_Mo_print_232 ?_
              rw [show j = (am_ar (σ.1 i)).length by omega, ← te_all_hd] at hX1
              have hps : te_ps [] (te_all (σ.1 i)) = te_all (σ.1 i) := te_ps_le _ [] (by show 0 + _ ≤ 1600; have := hX1.2.2.1; omega)
              have hsp : o_print σ (nI i) = (nI (te_all (σ.1 i)).length, (σ.1, σ.2.1, te_all (σ.1 i))) := by
                unfold o_print
                simp only [hi, hps]
              rw [hsp]
              exact ⟨F1, L, S1, rfl, rs_feed hr hF1 hS1 hX1, by rw [show j = (am_ar (σ.1 i)).length by omega, ← te_all_hd]⟩
            | succ m2 ihj =>
              intro j F1 S1 hj hX1 hF1 hS1
              obtain ⟨x, hx⟩ : ∃ x, (am_ar (σ.1 i))[j]? = some x := ⟨_, List.getElem?_eq_getElem (by omega)⟩
              have hxb := hok.1.2.2.1 x (List.mem_of_getElem? hx)
              have hn1 := te_num_16 (x.1 / 1024) (by omega)
              have hn2 := te_num_16 (x.1 % 16) (by omega)
              have hn5 := te_num_len x.2
              have hlen := te_as_len (fun x hx => (hok.1.2.2.1 x hx).1) j (by omega)
              refine gx_iload_n C 0 dd_Mo_print_143 (kk := ?_)
              refine gx_bipush (v := nI 65) C dd_Mo_print_144 (kk := ?_)
              refine gx_iload_n C 2 dd_Mo_print_146 (kk := ?_)
              refine gx_imul C dd_Mo_print_147 (kk := ?_)
              refine gx_topi _ (pk_mul _ _) ?_
              refine gx_aload_n C 1 dd_Mo_print_148 (kk := ?_)
              refine mo_get C fd_Mo_23 dd_Mo_print_149 (kk := ?_)
              refine gx_iload_n C 2 dd_Mo_print_152 (kk := ?_)
              refine mo_l48 C dd_Mo_print_153 (by omega) (kk := ?_)
              refine gx_topi _ (mo_is_f hF1 (hM i hi4)).2.2.2.1 ?_
              refine gx_iadd C dd_Mo_print_154 (kk := ?_)
              refine gx_topi _ (nI_add _ _) ?_
              refine gx_icmp_ge C 228 dd_Mo_print_155 (fun h155 => absurd h155 (nI_ge (by omega) (by omega))) (fun h155 => ?_)
              refine gx_aload_n C 1 dd_Mo_print_158 (kk := ?_)
              refine gx_aload_n C 1 dd_Mo_print_159 (kk := ?_)
              refine mo_get C fd_Mo_26 dd_Mo_print_160 (kk := ?_)
              refine gx_iload_n C 0 dd_Mo_print_163 (kk := ?_)
              refine mo_l49 C dd_Mo_print_164 (by omega) (kk := ?_)
              refine gx_topi _ ((mo_is_f hF1 (hM i hi4)).2.2.2.2.1 j x hx).1 ?_
              refine gx_i2l C dd_Mo_print_165 (w := lN (x.1 / 1024)) (hv := nI_l (by omega)) (kk := ?_)
              refine gx_bipush (v := nI 45) C dd_Mo_print_166 (kk := ?_)
              refine gx_callV C (ct_Mo_sayNumber (gx_l K) D dA ad h F1 L S1 (n := x.1 / 1024) (b := 45) hX1 (by omega) (by decide) (by simp only [List.length_append, List.length_cons, List.length_nil]; omega)) me_Mo_sayNumber ml_Mo_191 mn_Mo_sayNumber _ (gx_w_at (by decide) mo_h_43) rfl dd_Mo_print_168 (kk := fun v w hq => ?_)
              obtain ⟨rfl, F168, S168, rfl, hX168, hf168, hs168⟩ := hq
              have hF168 : ∀ k, k ≠ 56 → F168 k = F k := fun k hk => (hf168 k hk).trans (hF1 k hk)
              have hS168 : ∀ k, k ≠ 14 → S168 k = S k := fun k hk => (hs168 k hk).trans (hS1 k hk)
              refine gx_aload_n C 1 dd_Mo_print_171 (kk := ?_)
              refine gx_aload_n C 1 dd_Mo_print_172 (kk := ?_)
              refine mo_get C fd_Mo_29 dd_Mo_print_173 (kk := ?_)
              refine gx_iload_n C 0 dd_Mo_print_176 (kk := ?_)
              refine mo_l50 C dd_Mo_print_177 (by omega) (kk := ?_)
              refine gx_topi _ ((mo_is_f hF168 (hM i hi4)).2.2.2.2.1 j x hx).2.1 ?_
              refine gx_i2l C dd_Mo_print_178 (w := lN (x.1 % 16)) (hv := nI_l (by omega)) (kk := ?_)
              refine gx_bipush (v := nI 58) C dd_Mo_print_179 (kk := ?_)
              refine gx_callV C (ct_Mo_sayNumber (gx_l K) D dA ad h F168 L S168 (n := x.1 % 16) (b := 58) hX168 (by omega) (by decide) (by simp only [List.length_append, List.length_cons, List.length_nil]; omega)) me_Mo_sayNumber ml_Mo_191 mn_Mo_sayNumber _ (gx_w_at (by decide) mo_h_43) rfl dd_Mo_print_181 (kk := fun v w hq => ?_)
              obtain ⟨rfl, F181, S181, rfl, hX181, hf181, hs181⟩ := hq
              have hF181 : ∀ k, k ≠ 56 → F181 k = F k := fun k hk => (hf181 k hk).trans (hF168 k hk)
              have hS181 : ∀ k, k ≠ 14 → S181 k = S k := fun k hk => (hs181 k hk).trans (hS168 k hk)
              refine gx_aload_n C 1 dd_Mo_print_184 (kk := ?_)
              refine gx_aload_n C 1 dd_Mo_print_185 (kk := ?_)
              refine mo_get C fd_Mo_32 dd_Mo_print_186 (kk := ?_)
              refine gx_iload_n C 0 dd_Mo_print_189 (kk := ?_)
              refine mo_l51 C dd_Mo_print_190 (by omega) (kk := ?_)
              refine gx_topi _ ((mo_is_f hF181 (hM i hi4)).2.2.2.2.1 j x hx).2.2.1 ?_
              refine gx_callV C (ct_Mo_sayDigit (gx_l K) D dA ad h F181 L S181 (d := x.1 / 128 % 8) hX181 (by omega) (by simp only [List.length_append, List.length_cons, List.length_nil]; omega)) me_Mo_sayDigit ml_Mo_185 mn_Mo_sayDigit _ (gx_w_at (by decide) mo_h_43) rfl dd_Mo_print_191 (kk := fun v w hq => ?_)
              obtain ⟨rfl, F191, S191, rfl, hX191, hf191, hs191⟩ := hq
              have hF191 : ∀ k, k ≠ 56 → F191 k = F k := fun k hk => (hf191 k hk).trans (hF181 k hk)
              have hS191 : ∀ k, k ≠ 14 → S191 k = S k := fun k hk => (hs191 k hk).trans (hS181 k hk)
              refine gx_aload_n C 1 dd_Mo_print_194 (kk := ?_)
              refine gx_aload_n C 1 dd_Mo_print_195 (kk := ?_)
              refine mo_get C fd_Mo_35 dd_Mo_print_196 (kk := ?_)
              refine gx_iload_n C 0 dd_Mo_print_199 (kk := ?_)
              refine mo_l52 C dd_Mo_print_200 (by omega) (kk := ?_)
              refine gx_topi _ ((mo_is_f hF191 (hM i hi4)).2.2.2.2.1 j x hx).2.2.2.1 ?_
              refine gx_callV C (ct_Mo_sayDigit (gx_l K) D dA ad h F191 L S191 (d := x.1 / 16 % 8) hX191 (by omega) (by simp only [List.length_append, List.length_cons, List.length_nil]; omega)) me_Mo_sayDigit ml_Mo_185 mn_Mo_sayDigit _ (gx_w_at (by decide) mo_h_43) rfl dd_Mo_print_201 (kk := fun v w hq => ?_)
              obtain ⟨rfl, F201, S201, rfl, hX201, hf201, hs201⟩ := hq
              have hF201 : ∀ k, k ≠ 56 → F201 k = F k := fun k hk => (hf201 k hk).trans (hF191 k hk)
              have hS201 : ∀ k, k ≠ 14 → S201 k = S k := fun k hk => (hs201 k hk).trans (hS191 k hk)
              refine gx_aload_n C 1 dd_Mo_print_204 (kk := ?_)
              refine gx_bipush (v := nI 47) C dd_Mo_print_205 (kk := ?_)
              refine gx_callV C (ct_Mo_say (gx_l K) D dA ad h F201 L S201 (c := 47) hX201 (by decide) (by simp only [List.length_append, List.length_cons, List.length_nil]; omega)) me_Mo_say ml_Mo_188 mn_Mo_say _ (gx_w_at (by decide) mo_h_43) rfl dd_Mo_print_207 (kk := fun v w hq => ?_)
              obtain ⟨rfl, F207, S207, rfl, hX207, hf207, hs207⟩ := hq
              have hF207 : ∀ k, k ≠ 56 → F207 k = F k := fun k hk => (hf207 k hk).trans (hF201 k hk)
              have hS207 : ∀ k, k ≠ 14 → S207 k = S k := fun k hk => (hs207 k hk).trans (hS201 k hk)
              refine gx_aload_n C 1 dd_Mo_print_210 (kk := ?_)
              refine gx_aload_n C 1 dd_Mo_print_211 (kk := ?_)
              refine mo_get C fd_Mo_38 dd_Mo_print_212 (kk := ?_)
              refine gx_iload_n C 0 dd_Mo_print_215 (kk := ?_)
              refine mo_l53 C dd_Mo_print_216 (by omega) (kk := ?_)
              refine gx_topl _ ((mo_is_f hF207 (hM i hi4)).2.2.2.2.1 j x hx).2.2.2.2 ?_
              refine gx_bipush (v := nI 59) C dd_Mo_print_217 (kk := ?_)
              refine gx_callV C (ct_Mo_sayNumber (gx_l K) D dA ad h F207 L S207 (n := x.2) (b := 59) hX207 (by omega) (by decide) (by simp only [List.length_append, List.length_cons, List.length_nil]; omega)) me_Mo_sayNumber ml_Mo_191 mn_Mo_sayNumber _ (gx_w_at (by decide) mo_h_43) rfl dd_Mo_print_219 (kk := fun v w hq => ?_)
              obtain ⟨rfl, F219, S219, rfl, hX219, hf219, hs219⟩ := hq
              have hF219 : ∀ k, k ≠ 56 → F219 k = F k := fun k hk => (hf219 k hk).trans (hF207 k hk)
              have hS219 : ∀ k, k ≠ 14 → S219 k = S k := fun k hk => (hs219 k hk).trans (hS207 k hk)
              refine gx_iinc C 0 (nI (65 * i + (j + 1))) _ dd_Mo_print_222 (nI_1 _) (kk := ?_)
              refine gx_goto C 143 dd_Mo_print_225 (kk := ?_)
              refine ihj (j + 1) F219 S219 (by omega) ?_ hF219 hS219
              rw [te_as_s hx]
              unfold te_ar te_wt
              rw [te_num_8 (x.1 / 128 % 8) (by omega), te_num_8 (x.1 / 16 % 8) (by omega)]
              simp only [List.append_assoc] at hX219 ⊢
              exact hX219
          exact arcs (am_ar (σ.1 i)).length 0 F1 S1 (by omega) (by show rs_X F1 S1 (_ ++ []); rw [List.append_nil]; exact hX1) hF1 hS1
        | succ m ihe =>
          intro q F1 S1 hq0 hX1 hF1 hS1
          have hlen := te_es_len (am_en (σ.1 i)) q (by omega)
          refine gx_iload_n C 0 dd_Mo_print_75 (kk := ?_)
          refine gx_aload_n C 1 dd_Mo_print_76 (kk := ?_)
          refine mo_get C fd_Mo_7 dd_Mo_print_77 (kk := ?_)
          refine gx_iload_n C 2 dd_Mo_print_80 (kk := ?_)
          refine mo_l44 C dd_Mo_print_81 (by omega) (kk := ?_)
          refine gx_topi _ (mo_is_f hF1 (hM i hi4)).1 ?_
          refine gx_icmp_ge C 138 dd_Mo_print_82 (fun h82 => absurd h82 (nI_ge (by omega) (by omega))) (fun h82 => ?_)
          have heq0 := (mo_is_f hF1 (hM i hi4)).2.2.1 q (by omega)
          rcases heq : am_en (σ.1 i) q with _ | e
          · rw [heq] at heq0
            refine gx_aload_n C 1 dd_Mo_print_85 (kk := ?_)
            refine mo_get C fd_Mo_20 dd_Mo_print_86 (kk := ?_)
            refine gx_bipush (v := nI 16) C dd_Mo_print_89 (kk := ?_)
            refine gx_iload_n C 2 dd_Mo_print_91 (kk := ?_)
            refine gx_imul C dd_Mo_print_92 (kk := ?_)
            refine gx_topi _ (pk_mul _ _) ?_
            refine gx_iload_n C 0 dd_Mo_print_93 (kk := ?_)
            refine gx_iadd C dd_Mo_print_94 (kk := ?_)
            refine gx_topi _ (nI_add _ _) ?_
            refine mo_l47 C dd_Mo_print_95 (by omega) (kk := ?_)
            refine gx_topl _ heq0 ?_
            refine gx_lconst (v := lN 0) C dd_Mo_print_96 (kk := ?_)
            refine gx_lcmp C dd_Mo_print_97 (kk := ?_)
            refine gx_if_lt C 132 dd_Mo_print_98 (fun h98 => ?_) (fun h98 => absurd (by decide) h98)
            refine gx_iinc C 0 (nI (q + 1)) _ dd_Mo_print_132 (nI_1 _) (kk := ?_)
            refine gx_goto C 75 dd_Mo_print_135 (kk := ?_)
            refine ihe (q + 1) F1 S1 (by omega) ?_ hF1 hS1
            rw [show te_es (am_en (σ.1 i)) (q + 1) = te_es (am_en (σ.1 i)) q ++ te_en q (am_en (σ.1 i) q) from rfl, heq]
            show rs_X F1 S1 (_ ++ (_ ++ []))
            rw [List.append_nil]
            exact hX1
          · rw [heq] at heq0
            have heb := hok.1.2.2.2.1 _ _ heq
            have hn1 := te_num_16 q (by omega)
            have hn2 := te_num_len e
            refine gx_aload_n C 1 dd_Mo_print_85 (kk := ?_)
            refine mo_get C fd_Mo_20 dd_Mo_print_86 (kk := ?_)
            refine gx_bipush (v := nI 16) C dd_Mo_print_89 (kk := ?_)
            refine gx_iload_n C 2 dd_Mo_print_91 (kk := ?_)
            refine gx_imul C dd_Mo_print_92 (kk := ?_)
            refine gx_topi _ (pk_mul _ _) ?_
            refine gx_iload_n C 0 dd_Mo_print_93 (kk := ?_)
            refine gx_iadd C dd_Mo_print_94 (kk := ?_)
            refine gx_topi _ (nI_add _ _) ?_
            refine mo_l47 C dd_Mo_print_95 (by omega) (kk := ?_)
            refine gx_topl _ heq0 ?_
            refine gx_lconst (v := lN 0) C dd_Mo_print_96 (kk := ?_)
            refine gx_lcmp C dd_Mo_print_97 (kk := ?_)
            refine gx_if_lt C 132 dd_Mo_print_98 (fun h98 => absurd (lc_lt.mp h98) (by show ¬ lN e < lN 0; rw [pk_lLT (by omega) (by decide)]; omega)) (fun h98 => ?_)
            refine gx_aload_n C 1 dd_Mo_print_101 (kk := ?_)
            refine gx_bipush (v := nI 102) C dd_Mo_print_102 (kk := ?_)
            refine gx_callV C (ct_Mo_say (gx_l K) D dA ad h F1 L S1 (c := 102) hX1 (by decide) (by simp only [List.length_append, List.length_cons, List.length_nil]; omega)) me_Mo_say ml_Mo_188 mn_Mo_say _ (gx_w_at (by decide) mo_h_43) rfl dd_Mo_print_104 (kk := fun v w hq => ?_)
            obtain ⟨rfl, F104, S104, rfl, hX104, hf104, hs104⟩ := hq
            have hF104 : ∀ k, k ≠ 56 → F104 k = F k := fun k hk => (hf104 k hk).trans (hF1 k hk)
            have hS104 : ∀ k, k ≠ 14 → S104 k = S k := fun k hk => (hs104 k hk).trans (hS1 k hk)
            refine gx_aload_n C 1 dd_Mo_print_107 (kk := ?_)
            refine gx_iload_n C 0 dd_Mo_print_108 (kk := ?_)
            refine gx_i2l C dd_Mo_print_109 (w := lN (q)) (hv := nI_l (by omega)) (kk := ?_)
            refine gx_bipush (v := nI 47) C dd_Mo_print_110 (kk := ?_)
            refine gx_callV C (ct_Mo_sayNumber (gx_l K) D dA ad h F104 L S104 (n := q) (b := 47) hX104 (by omega) (by decide) (by simp only [List.length_append, List.length_cons, List.length_nil]; omega)) me_Mo_sayNumber ml_Mo_191 mn_Mo_sayNumber _ (gx_w_at (by decide) mo_h_43) rfl dd_Mo_print_112 (kk := fun v w hq => ?_)
            obtain ⟨rfl, F112, S112, rfl, hX112, hf112, hs112⟩ := hq
            have hF112 : ∀ k, k ≠ 56 → F112 k = F k := fun k hk => (hf112 k hk).trans (hF104 k hk)
            have hS112 : ∀ k, k ≠ 14 → S112 k = S k := fun k hk => (hs112 k hk).trans (hS104 k hk)
            refine gx_aload_n C 1 dd_Mo_print_115 (kk := ?_)
            refine gx_aload_n C 1 dd_Mo_print_116 (kk := ?_)
            refine mo_get C fd_Mo_20 dd_Mo_print_117 (kk := ?_)
            refine gx_bipush (v := nI 16) C dd_Mo_print_120 (kk := ?_)
            refine gx_iload_n C 2 dd_Mo_print_122 (kk := ?_)
            refine gx_imul C dd_Mo_print_123 (kk := ?_)
            refine gx_topi _ (pk_mul _ _) ?_
            refine gx_iload_n C 0 dd_Mo_print_124 (kk := ?_)
            refine gx_iadd C dd_Mo_print_125 (kk := ?_)
            refine gx_topi _ (nI_add _ _) ?_
            refine mo_l47 C dd_Mo_print_126 (by omega) (kk := ?_)
            refine gx_topl (lN e) (((mo_is_f hF112 (hM i hi4)).2.2.1 q (by omega)).trans (by rw [heq]; rfl)) ?_
            refine gx_bipush (v := nI 59) C dd_Mo_print_127 (kk := ?_)
            refine gx_callV C (ct_Mo_sayNumber (gx_l K) D dA ad h F112 L S112 (n := e) (b := 59) hX112 (by omega) (by decide) (by simp only [List.length_append, List.length_cons, List.length_nil]; omega)) me_Mo_sayNumber ml_Mo_191 mn_Mo_sayNumber _ (gx_w_at (by decide) mo_h_43) rfl dd_Mo_print_129 (kk := fun v w hq => ?_)
            obtain ⟨rfl, F129, S129, rfl, hX129, hf129, hs129⟩ := hq
            have hF129 : ∀ k, k ≠ 56 → F129 k = F k := fun k hk => (hf129 k hk).trans (hF112 k hk)
            have hS129 : ∀ k, k ≠ 14 → S129 k = S k := fun k hk => (hs129 k hk).trans (hS112 k hk)
            refine gx_iinc C 0 (nI (q + 1)) _ dd_Mo_print_132 (nI_1 _) (kk := ?_)
            refine gx_goto C 75 dd_Mo_print_135 (kk := ?_)
            refine ihe (q + 1) F129 S129 (by omega) ?_ hF129 hS129
            rw [show te_es (am_en (σ.1 i)) (q + 1) = te_es (am_en (σ.1 i)) q ++ te_en q (am_en (σ.1 i) q) from rfl, heq]
            show rs_X F129 S129 (_ ++ (_ ++ te_sw 102 q e))
            unfold te_sw te_wt
            simp only [List.append_assoc] at hX129 ⊢
            exact hX129
      refine ends (am_n (σ.1 i)) 0 F70 S70 (by omega) ?_ hF70 hS70
      unfold te_hd
      rw [hst]
      show rs_X F70 S70 ([110] ++ (te_num (am_n (σ.1 i)) ++ ([59] ++ te_sw 115 xa.1 xa.2)) ++ [])
      unfold te_sw te_wt
      simp only [List.append_nil, List.nil_append, List.append_assoc] at hX70 ⊢
      exact hX70
