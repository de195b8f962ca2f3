theorem dd_Ma_bring_0 : decode cc_Ma_bring 0 = .ok (.aload_n 0, 1) := by decide +kernel
theorem dd_Ma_bring_1 : decode cc_Ma_bring 1 = .ok (.iload_n 1, 1) := by decide +kernel
theorem dd_Ma_bring_2 : decode cc_Ma_bring 2 = .ok (.invokevirtual 46, 3) := by decide +kernel
theorem dd_Ma_bring_5 : decode cc_Ma_bring 5 = .ok (.istore 4, 2) := by decide +kernel
theorem dd_Ma_bring_7 : decode cc_Ma_bring 7 = .ok (.iload 4, 2) := by decide +kernel
theorem dd_Ma_bring_9 : decode cc_Ma_bring 9 = .ok (.aload_n 0, 1) := by decide +kernel
theorem dd_Ma_bring_10 : decode cc_Ma_bring 10 = .ok (.getfield 41, 3) := by decide +kernel
theorem dd_Ma_bring_13 : decode cc_Ma_bring 13 = .ok (.if_icmp .ge 34, 3) := by decide +kernel
theorem dd_Ma_bring_16 : decode cc_Ma_bring 16 = .ok (.aload_n 0, 1) := by decide +kernel
theorem dd_Ma_bring_17 : decode cc_Ma_bring 17 = .ok (.getfield 27, 3) := by decide +kernel
theorem dd_Ma_bring_20 : decode cc_Ma_bring 20 = .ok (.iload 4, 2) := by decide +kernel
theorem dd_Ma_bring_22 : decode cc_Ma_bring 22 = .ok (.iaload, 1) := by decide +kernel
theorem dd_Ma_bring_23 : decode cc_Ma_bring 23 = .ok (.iload_n 1, 1) := by decide +kernel
theorem dd_Ma_bring_24 : decode cc_Ma_bring 24 = .ok (.if_icmp .ne 23, 3) := by decide +kernel
theorem dd_Ma_bring_27 : decode cc_Ma_bring 27 = .ok (.aload_n 0, 1) := by decide +kernel
theorem dd_Ma_bring_28 : decode cc_Ma_bring 28 = .ok (.getfield 31, 3) := by decide +kernel
theorem dd_Ma_bring_31 : decode cc_Ma_bring 31 = .ok (.iload 4, 2) := by decide +kernel
theorem dd_Ma_bring_33 : decode cc_Ma_bring 33 = .ok (.aload_n 0, 1) := by decide +kernel
theorem dd_Ma_bring_34 : decode cc_Ma_bring 34 = .ok (.getfield 31, 3) := by decide +kernel
theorem dd_Ma_bring_37 : decode cc_Ma_bring 37 = .ok (.iload 4, 2) := by decide +kernel
theorem dd_Ma_bring_39 : decode cc_Ma_bring 39 = .ok (.laload, 1) := by decide +kernel
theorem dd_Ma_bring_40 : decode cc_Ma_bring 40 = .ok (.lload_n 2, 1) := by decide +kernel
theorem dd_Ma_bring_41 : decode cc_Ma_bring 41 = .ok (.invokestatic 50, 3) := by decide +kernel
theorem dd_Ma_bring_44 : decode cc_Ma_bring 44 = .ok (.lastore, 1) := by decide +kernel
theorem dd_Ma_bring_45 : decode cc_Ma_bring 45 = .ok (.iconst 1, 1) := by decide +kernel
theorem dd_Ma_bring_46 : decode cc_Ma_bring 46 = .ok (.ireturn, 1) := by decide +kernel
theorem dd_Ma_bring_47 : decode cc_Ma_bring 47 = .ok (.aload_n 0, 1) := by decide +kernel
theorem dd_Ma_bring_48 : decode cc_Ma_bring 48 = .ok (.getfield 41, 3) := by decide +kernel
theorem dd_Ma_bring_51 : decode cc_Ma_bring 51 = .ok (.bipush 64, 2) := by decide +kernel
theorem dd_Ma_bring_53 : decode cc_Ma_bring 53 = .ok (.if_icmp .lt 5, 3) := by decide +kernel
theorem dd_Ma_bring_56 : decode cc_Ma_bring 56 = .ok (.iconst 0, 1) := by decide +kernel
theorem dd_Ma_bring_57 : decode cc_Ma_bring 57 = .ok (.ireturn, 1) := by decide +kernel
theorem dd_Ma_bring_58 : decode cc_Ma_bring 58 = .ok (.aload_n 0, 1) := by decide +kernel
theorem dd_Ma_bring_59 : decode cc_Ma_bring 59 = .ok (.getfield 27, 3) := by decide +kernel
theorem dd_Ma_bring_62 : decode cc_Ma_bring 62 = .ok (.iload 4, 2) := by decide +kernel
theorem dd_Ma_bring_64 : decode cc_Ma_bring 64 = .ok (.aload_n 0, 1) := by decide +kernel
theorem dd_Ma_bring_65 : decode cc_Ma_bring 65 = .ok (.getfield 27, 3) := by decide +kernel
theorem dd_Ma_bring_68 : decode cc_Ma_bring 68 = .ok (.iload 4, 2) := by decide +kernel
theorem dd_Ma_bring_70 : decode cc_Ma_bring 70 = .ok (.iconst 1, 1) := by decide +kernel
theorem dd_Ma_bring_71 : decode cc_Ma_bring 71 = .ok (.iadd, 1) := by decide +kernel
theorem dd_Ma_bring_72 : decode cc_Ma_bring 72 = .ok (.aload_n 0, 1) := by decide +kernel
theorem dd_Ma_bring_73 : decode cc_Ma_bring 73 = .ok (.getfield 41, 3) := by decide +kernel
theorem dd_Ma_bring_76 : decode cc_Ma_bring 76 = .ok (.iload 4, 2) := by decide +kernel
theorem dd_Ma_bring_78 : decode cc_Ma_bring 78 = .ok (.isub, 1) := by decide +kernel
theorem dd_Ma_bring_79 : decode cc_Ma_bring 79 = .ok (.invokestatic 56, 3) := by decide +kernel
theorem dd_Ma_bring_82 : decode cc_Ma_bring 82 = .ok (.aload_n 0, 1) := by decide +kernel
theorem dd_Ma_bring_83 : decode cc_Ma_bring 83 = .ok (.getfield 31, 3) := by decide +kernel
theorem dd_Ma_bring_86 : decode cc_Ma_bring 86 = .ok (.iload 4, 2) := by decide +kernel
theorem dd_Ma_bring_88 : decode cc_Ma_bring 88 = .ok (.aload_n 0, 1) := by decide +kernel
theorem dd_Ma_bring_89 : decode cc_Ma_bring 89 = .ok (.getfield 31, 3) := by decide +kernel
theorem dd_Ma_bring_92 : decode cc_Ma_bring 92 = .ok (.iload 4, 2) := by decide +kernel
theorem dd_Ma_bring_94 : decode cc_Ma_bring 94 = .ok (.iconst 1, 1) := by decide +kernel
theorem dd_Ma_bring_95 : decode cc_Ma_bring 95 = .ok (.iadd, 1) := by decide +kernel
theorem dd_Ma_bring_96 : decode cc_Ma_bring 96 = .ok (.aload_n 0, 1) := by decide +kernel
theorem dd_Ma_bring_97 : decode cc_Ma_bring 97 = .ok (.getfield 41, 3) := by decide +kernel
theorem dd_Ma_bring_100 : decode cc_Ma_bring 100 = .ok (.iload 4, 2) := by decide +kernel
theorem dd_Ma_bring_102 : decode cc_Ma_bring 102 = .ok (.isub, 1) := by decide +kernel
theorem dd_Ma_bring_103 : decode cc_Ma_bring 103 = .ok (.invokestatic 56, 3) := by decide +kernel
theorem dd_Ma_bring_106 : decode cc_Ma_bring 106 = .ok (.aload_n 0, 1) := by decide +kernel
theorem dd_Ma_bring_107 : decode cc_Ma_bring 107 = .ok (.getfield 27, 3) := by decide +kernel
theorem dd_Ma_bring_110 : decode cc_Ma_bring 110 = .ok (.iload 4, 2) := by decide +kernel
theorem dd_Ma_bring_112 : decode cc_Ma_bring 112 = .ok (.iload_n 1, 1) := by decide +kernel
theorem dd_Ma_bring_113 : decode cc_Ma_bring 113 = .ok (.iastore, 1) := by decide +kernel
theorem dd_Ma_bring_114 : decode cc_Ma_bring 114 = .ok (.aload_n 0, 1) := by decide +kernel
theorem dd_Ma_bring_115 : decode cc_Ma_bring 115 = .ok (.getfield 31, 3) := by decide +kernel
theorem dd_Ma_bring_118 : decode cc_Ma_bring 118 = .ok (.iload 4, 2) := by decide +kernel
theorem dd_Ma_bring_120 : decode cc_Ma_bring 120 = .ok (.lload_n 2, 1) := by decide +kernel
theorem dd_Ma_bring_121 : decode cc_Ma_bring 121 = .ok (.lastore, 1) := by decide +kernel
theorem dd_Ma_bring_122 : decode cc_Ma_bring 122 = .ok (.aload_n 0, 1) := by decide +kernel
theorem dd_Ma_bring_123 : decode cc_Ma_bring 123 = .ok (.dup, 1) := by decide +kernel
theorem dd_Ma_bring_124 : decode cc_Ma_bring 124 = .ok (.getfield 41, 3) := by decide +kernel
theorem dd_Ma_bring_127 : decode cc_Ma_bring 127 = .ok (.iconst 1, 1) := by decide +kernel
theorem dd_Ma_bring_128 : decode cc_Ma_bring 128 = .ok (.iadd, 1) := by decide +kernel
theorem dd_Ma_bring_129 : decode cc_Ma_bring 129 = .ok (.putfield 41, 3) := by decide +kernel
theorem dd_Ma_bring_132 : decode cc_Ma_bring 132 = .ok (.iconst 1, 1) := by decide +kernel
theorem dd_Ma_bring_133 : decode cc_Ma_bring 133 = .ok (.ireturn, 1) := by decide +kernel
theorem dd_Ma_weightsFit_0 : decode cc_Ma_weightsFit 0 = .ok (.aload_n 0, 1) := by decide +kernel
theorem dd_Ma_weightsFit_1 : decode cc_Ma_weightsFit 1 = .ok (.getfield 37, 3) := by decide +kernel
theorem dd_Ma_weightsFit_4 : decode cc_Ma_weightsFit 4 = .ok (.ldc2_w 62, 3) := by decide +kernel
theorem dd_Ma_weightsFit_7 : decode cc_Ma_weightsFit 7 = .ok (.lcmp, 1) := by decide +kernel
theorem dd_Ma_weightsFit_8 : decode cc_Ma_weightsFit 8 = .ok (.ifCond .gt 7, 3) := by decide +kernel
theorem dd_Ma_weightsFit_11 : decode cc_Ma_weightsFit 11 = .ok (.iconst 1, 1) := by decide +kernel
theorem dd_Ma_weightsFit_12 : decode cc_Ma_weightsFit 12 = .ok (.goto 4, 3) := by decide +kernel
theorem dd_Ma_weightsFit_15 : decode cc_Ma_weightsFit 15 = .ok (.iconst 0, 1) := by decide +kernel
theorem dd_Ma_weightsFit_16 : decode cc_Ma_weightsFit 16 = .ok (.istore_n 1, 1) := by decide +kernel
theorem dd_Ma_weightsFit_17 : decode cc_Ma_weightsFit 17 = .ok (.iconst 0, 1) := by decide +kernel
theorem dd_Ma_weightsFit_18 : decode cc_Ma_weightsFit 18 = .ok (.istore_n 2, 1) := by decide +kernel
theorem dd_Ma_weightsFit_19 : decode cc_Ma_weightsFit 19 = .ok (.iload_n 2, 1) := by decide +kernel
theorem dd_Ma_weightsFit_20 : decode cc_Ma_weightsFit 20 = .ok (.aload_n 0, 1) := by decide +kernel
theorem dd_Ma_weightsFit_21 : decode cc_Ma_weightsFit 21 = .ok (.getfield 34, 3) := by decide +kernel
theorem dd_Ma_weightsFit_24 : decode cc_Ma_weightsFit 24 = .ok (.if_icmp .ge 32, 3) := by decide +kernel
theorem dd_Ma_weightsFit_27 : decode cc_Ma_weightsFit 27 = .ok (.iload_n 1, 1) := by decide +kernel
theorem dd_Ma_weightsFit_28 : decode cc_Ma_weightsFit 28 = .ok (.ifCond .eq 20, 3) := by decide +kernel
theorem dd_Ma_weightsFit_31 : decode cc_Ma_weightsFit 31 = .ok (.aload_n 0, 1) := by decide +kernel
theorem dd_Ma_weightsFit_32 : decode cc_Ma_weightsFit 32 = .ok (.getfield 15, 3) := by decide +kernel
theorem dd_Ma_weightsFit_35 : decode cc_Ma_weightsFit 35 = .ok (.iload_n 2, 1) := by decide +kernel
theorem dd_Ma_weightsFit_36 : decode cc_Ma_weightsFit 36 = .ok (.laload, 1) := by decide +kernel
theorem dd_Ma_weightsFit_37 : decode cc_Ma_weightsFit 37 = .ok (.ldc2_w 62, 3) := by decide +kernel
theorem dd_Ma_weightsFit_40 : decode cc_Ma_weightsFit 40 = .ok (.lcmp, 1) := by decide +kernel
theorem dd_Ma_weightsFit_41 : decode cc_Ma_weightsFit 41 = .ok (.ifCond .gt 7, 3) := by decide +kernel
theorem dd_Ma_weightsFit_44 : decode cc_Ma_weightsFit 44 = .ok (.iconst 1, 1) := by decide +kernel
theorem dd_Ma_weightsFit_45 : decode cc_Ma_weightsFit 45 = .ok (.goto 4, 3) := by decide +kernel
theorem dd_Ma_weightsFit_48 : decode cc_Ma_weightsFit 48 = .ok (.iconst 0, 1) := by decide +kernel
theorem dd_Ma_weightsFit_49 : decode cc_Ma_weightsFit 49 = .ok (.istore_n 1, 1) := by decide +kernel
theorem dd_Ma_weightsFit_50 : decode cc_Ma_weightsFit 50 = .ok (.iinc 2 1, 3) := by decide +kernel
theorem dd_Ma_weightsFit_53 : decode cc_Ma_weightsFit 53 = .ok (.goto (-34), 3) := by decide +kernel
theorem dd_Ma_weightsFit_56 : decode cc_Ma_weightsFit 56 = .ok (.iconst 0, 1) := by decide +kernel
theorem dd_Ma_weightsFit_57 : decode cc_Ma_weightsFit 57 = .ok (.istore_n 2, 1) := by decide +kernel
theorem dd_Ma_weightsFit_58 : decode cc_Ma_weightsFit 58 = .ok (.iload_n 2, 1) := by decide +kernel
theorem dd_Ma_weightsFit_59 : decode cc_Ma_weightsFit 59 = .ok (.aload_n 0, 1) := by decide +kernel
theorem dd_Ma_weightsFit_60 : decode cc_Ma_weightsFit 60 = .ok (.getfield 41, 3) := by decide +kernel
theorem dd_Ma_weightsFit_63 : decode cc_Ma_weightsFit 63 = .ok (.if_icmp .ge 32, 3) := by decide +kernel
theorem dd_Ma_weightsFit_66 : decode cc_Ma_weightsFit 66 = .ok (.iload_n 1, 1) := by decide +kernel
theorem dd_Ma_weightsFit_67 : decode cc_Ma_weightsFit 67 = .ok (.ifCond .eq 20, 3) := by decide +kernel
theorem dd_Ma_weightsFit_70 : decode cc_Ma_weightsFit 70 = .ok (.aload_n 0, 1) := by decide +kernel
theorem dd_Ma_weightsFit_71 : decode cc_Ma_weightsFit 71 = .ok (.getfield 31, 3) := by decide +kernel
theorem dd_Ma_weightsFit_74 : decode cc_Ma_weightsFit 74 = .ok (.iload_n 2, 1) := by decide +kernel
theorem dd_Ma_weightsFit_75 : decode cc_Ma_weightsFit 75 = .ok (.laload, 1) := by decide +kernel
theorem dd_Ma_weightsFit_76 : decode cc_Ma_weightsFit 76 = .ok (.ldc2_w 62, 3) := by decide +kernel
theorem dd_Ma_weightsFit_79 : decode cc_Ma_weightsFit 79 = .ok (.lcmp, 1) := by decide +kernel
theorem dd_Ma_weightsFit_80 : decode cc_Ma_weightsFit 80 = .ok (.ifCond .gt 7, 3) := by decide +kernel
theorem dd_Ma_weightsFit_83 : decode cc_Ma_weightsFit 83 = .ok (.iconst 1, 1) := by decide +kernel
theorem dd_Ma_weightsFit_84 : decode cc_Ma_weightsFit 84 = .ok (.goto 4, 3) := by decide +kernel
theorem dd_Ma_weightsFit_87 : decode cc_Ma_weightsFit 87 = .ok (.iconst 0, 1) := by decide +kernel
theorem dd_Ma_weightsFit_88 : decode cc_Ma_weightsFit 88 = .ok (.istore_n 1, 1) := by decide +kernel
theorem dd_Ma_weightsFit_89 : decode cc_Ma_weightsFit 89 = .ok (.iinc 2 1, 3) := by decide +kernel
theorem dd_Ma_weightsFit_92 : decode cc_Ma_weightsFit 92 = .ok (.goto (-34), 3) := by decide +kernel
theorem dd_Ma_weightsFit_95 : decode cc_Ma_weightsFit 95 = .ok (.iload_n 1, 1) := by decide +kernel
theorem dd_Ma_weightsFit_96 : decode cc_Ma_weightsFit 96 = .ok (.ireturn, 1) := by decide +kernel
theorem am_ins_at {l : List (Nat × Nat)} {p : Nat} (hp : p ≤ l.length) (y : Nat × Nat) (j : Nat) : (l.take p ++ y :: l.drop p)[j]? = if j < p then l[j]? else if j = p then some y else l[j - 1]? := by
  have hl : (l.take p).length = p := by simp [Nat.min_eq_left hp]
  by_cases h1 : j < p
  · rw [if_pos h1, List.getElem?_append_left (by omega), List.getElem?_take_of_lt h1]
  · rw [if_neg h1, List.getElem?_append_right (by omega), hl]
    by_cases h2 : j = p
    · subst h2
      simp
    · obtain ⟨m, rfl⟩ : ∃ m, j = p + 1 + m := ⟨j - (p + 1), by omega⟩
      rw [if_neg h2, show p + 1 + m - p = m + 1 by omega, List.getElem?_cons_succ, List.getElem?_drop, show p + 1 + m - 1 = p + m by omega]
theorem am_ins_len {l : List (Nat × Nat)} {p : Nat} (hp : p ≤ l.length) (y : Nat × Nat) : (l.take p ++ y :: l.drop p).length = l.length + 1 := by
  simp [Nat.min_eq_left hp]
  omega
theorem gm_ch {mm m1 m2 : Nat → gm_V} {i : Nat} {x y : gm_V} (h1 : m1 = va_up mm i x) (h2 : m2 = va_up m1 i y) : m2 = va_up mm i y := by
  subst h1
  rw [h2, gm_uu]
theorem fb_nar {b : Bool} : narrow .boolean (.int (nI b.toNat)) = .int (nI b.toNat) := by cases b <;> rfl
theorem fb_0 {b : Bool} : nI b.toNat = 0 ↔ b = false := by cases b <;> decide
theorem lN_min {a b : Nat} (ha : a < 2 ^ 63) (hb : b < 2 ^ 63) : (if lN a < lN b then lN a else lN b) = lN (if a < b then a else b) := by
  by_cases h : a < b
  · rw [if_pos h, if_pos ((pk_lLT ha hb).mpr h)]
  · rw [if_neg h, if_neg (fun q => h ((pk_lLT ha hb).mp q))]
set_option maxRecDepth 100000 in
set_option maxHeartbeats 4000000 in
theorem ct_Ma_bring (l : Launch) (D : va_G) (dA : Nat → ClassId) (ad : Nat → Nat) (mm : Nat → gm_V) (r : Nat → va_E) {i : Nat} {a : am_T} {key x0 B : Nat} (hi : i < 5) (hM : gm_is (mm i) a) (hb : am_b B a) (hs : am_so (am_ar a)) (hB : B ≤ 2 ^ 62) (hk : key < 16384) (hx0 : x0 < B) : gx_Ct l D dA yy_Ma_bring cc_Ma_bring 5 (some .boolean) 1 0 0 [.ref (ad (2 + 4 * i)), .int (nI key), .long (lN x0)] (gx_w ad (gm_h dA ad mm r)) (fun v w => (am_rm key (am_ar a) = true ∧ v = some (.int (nI 1)) ∧ ∃ M, w = gx_w ad (gm_h dA ad (va_up mm i M) r) ∧ gm_is M (am_n a, am_st a, am_en a, am_in key x0 (am_ar a))) ∨ (am_rm key (am_ar a) = false ∧ v = some (.int (nI 0)) ∧ w = (gx_w ad (gm_h dA ad mm r)))) := by
  refine gx_of (by decide) (Nat.le_of_ble_eq_true rfl) (fun K C _ _ => ?_)
  have hple := am_pl_le key (am_ar a)
  have hl64 := hb.2.1
  refine gx_aload_n C 0 dd_Ma_bring_0 (kk := ?_)
  refine gx_iload_n C 1 dd_Ma_bring_1 (kk := ?_)
  refine gx_callV C (ct_Ma_placeOf (gx_l K) D dA ad mm r (key := key) hi hM (by omega) hb.2.1 (fun x hx => (hb.2.2.1 x hx).1) hs) me_Ma_placeOf ml_Ma_46 mn_Ma_placeOf _ (gx_w_at (by omega) (gm_at (j := 0) hi (by decide))) rfl dd_Ma_bring_2 (kk := fun v w hq => ?_)
  obtain ⟨rfl, rfl⟩ := hq
  refine gx_istore C _ dd_Ma_bring_5 (kk := ?_)
  refine gx_iload C 0 dd_Ma_bring_7 (kk := ?_)
  refine gx_aload_n C 1 dd_Ma_bring_9 (kk := ?_)
  refine gm_get C fd_Ma_41 hi dd_Ma_bring_10 (kk := ?_)
  refine gx_topi _ hM.2.2.2.1 ?_
  refine gx_icmp_ge C 47 dd_Ma_bring_13 (fun h13 => ?_) (fun h13 => ?_)
  · rw [nI_leI (by omega) (by omega)] at h13
    refine gx_aload_n C 1 dd_Ma_bring_47 (kk := ?_)
    refine gm_get C fd_Ma_41 hi dd_Ma_bring_48 (kk := ?_)
    refine gx_topi _ hM.2.2.2.1 ?_
    refine gx_bipush (v := nI 64) C dd_Ma_bring_51 (kk := ?_)
    refine gx_icmp_lt C 58 dd_Ma_bring_53 (fun h53 => ?_) (fun h53 => ?_)
    · rw [nI_ltI (by omega) (by omega)] at h53
      refine gx_aload_n C 1 dd_Ma_bring_58 (kk := ?_)
      refine gm_get C fd_Ma_27 (by assumption) dd_Ma_bring_59 (kk := ?_)
      refine gx_iload C 0 dd_Ma_bring_62 (kk := ?_)
      refine gx_aload_n C 1 dd_Ma_bring_64 (kk := ?_)
      refine gm_get C fd_Ma_27 (by assumption) dd_Ma_bring_65 (kk := ?_)
      refine gx_iload C 0 dd_Ma_bring_68 (kk := ?_)
      refine gx_iconst (v := nI 1) C dd_Ma_bring_70 (kk := ?_)
      refine gx_iadd C dd_Ma_bring_71 (kk := ?_)
      refine gx_topi _ (nI_add _ _) ?_
      refine gx_aload_n C 1 dd_Ma_bring_72 (kk := ?_)
      refine gm_get C fd_Ma_41 hi dd_Ma_bring_73 (kk := ?_)
      refine gx_topi _ hM.2.2.2.1 ?_
      refine gx_iload C 0 dd_Ma_bring_76 (kk := ?_)
      refine gx_isub C dd_Ma_bring_78 (kk := ?_)
      refine gx_topi _ (pk_sub (by omega)) ?_
      refine gm_cp_kV C ml_Ma_56 hi (by omega) (by omega) dd_Ma_bring_79 (kk := fun m1 e1 f1 u1 => ?_)
      refine gx_aload_n C 1 dd_Ma_bring_82 (kk := ?_)
      refine gm_get C fd_Ma_31 (by assumption) dd_Ma_bring_83 (kk := ?_)
      refine gx_iload C 0 dd_Ma_bring_86 (kk := ?_)
      refine gx_aload_n C 1 dd_Ma_bring_88 (kk := ?_)
      refine gm_get C fd_Ma_31 (by assumption) dd_Ma_bring_89 (kk := ?_)
      refine gx_iload C 0 dd_Ma_bring_92 (kk := ?_)
      refine gx_iconst (v := nI 1) C dd_Ma_bring_94 (kk := ?_)
      refine gx_iadd C dd_Ma_bring_95 (kk := ?_)
      refine gx_topi _ (nI_add _ _) ?_
      refine gx_aload_n C 1 dd_Ma_bring_96 (kk := ?_)
      refine gm_get C fd_Ma_41 hi dd_Ma_bring_97 (kk := ?_)
      refine gx_topi (nI (am_ar a).length) (by rw [e1]; exact hM.2.2.2.1) ?_
      refine gx_iload C 0 dd_Ma_bring_100 (kk := ?_)
      refine gx_isub C dd_Ma_bring_102 (kk := ?_)
      refine gx_topi _ (pk_sub (by omega)) ?_
      refine gm_cp_gV C ml_Ma_56 hi (by omega) (by omega) dd_Ma_bring_103 (kk := fun m2 e2 f2 u2 => ?_)
      refine gx_aload_n C 1 dd_Ma_bring_106 (kk := ?_)
      refine gm_get C fd_Ma_27 (by assumption) dd_Ma_bring_107 (kk := ?_)
      refine gx_iload C 0 dd_Ma_bring_110 (kk := ?_)
      refine gx_iload_n C 2 dd_Ma_bring_112 (kk := ?_)
      refine gm_sn_kV C hi dd_Ma_bring_113 (by omega) (kk := fun m3 e3 f3 u3 => ?_)
      refine gx_aload_n C 1 dd_Ma_bring_114 (kk := ?_)
      refine gm_get C fd_Ma_31 (by assumption) dd_Ma_bring_115 (kk := ?_)
      refine gx_iload C 0 dd_Ma_bring_118 (kk := ?_)
      refine gx_lload_n C 3 dd_Ma_bring_120 (kk := ?_)
      refine gm_sn_gV C hi dd_Ma_bring_121 (by omega) (kk := fun m4 e4 f4 u4 => ?_)
      refine gx_aload_n C 1 dd_Ma_bring_122 (kk := ?_)
      refine gx_dup C dd_Ma_bring_123 (kk := ?_)
      refine gm_get C fd_Ma_41 hi dd_Ma_bring_124 (kk := ?_)
      refine gx_topi (nI (am_ar a).length) (by rw [e4]; show gm_c (m3 i) = _; rw [e3]; show gm_c (m2 i) = _; rw [e2]; show gm_c (m1 i) = _; rw [e1]; exact hM.2.2.2.1) ?_
      refine gx_iconst (v := nI 1) C dd_Ma_bring_127 (kk := ?_)
      refine gx_iadd C dd_Ma_bring_128 (kk := ?_)
      refine gx_topi _ (nI_add _ _) ?_
      refine gm_put_cV C fw_Ma_41 hi dd_Ma_bring_129 (kk := fun m5 e5 f5 u5 => ?_)
      refine gx_iconst (v := nI 1) C dd_Ma_bring_132 (kk := ?_)
      refine gx_zret C dd_Ma_bring_133 (by first | rfl | exact fb_nar) ?_
      have hno : am_has key (am_ar a) = false := by
        simp [am_has, List.getElem?_eq_none (show (am_ar a).length ≤ am_pl key (am_ar a) by omega)]
      have hin : am_in key x0 (am_ar a) = (am_ar a).take (am_pl key (am_ar a)) ++ (key, x0) :: (am_ar a).drop (am_pl key (am_ar a)) := by
        unfold am_in
        unfold am_has at hno
        split
        · rename_i y hy
          rw [hy] at hno
          have hne : ¬ y.1 = key := by simpa using hno
          rw [if_neg hne]
        · rfl
      refine Or.inl ⟨by simp [am_rm, h53], rfl, m5 i, ?_, ?_⟩
      · rw [← gm_ch (gm_ch (gm_ch (gm_ch u1 u2) u3) u4) u5]
      · have same : ∀ {α : Type} (f : gm_V → α), (∀ n q s e c k g c2 k2 g2, f (n, q, s, e, c, k, g) = f (n, q, s, e, c2, k2, g2)) → f (m5 i) = f (mm i) := fun f hf => by rw [e5, hf _ _ _ _ _ _ _ (gm_c (m4 i)) (gm_k (m4 i)) (gm_g (m4 i))]; show f (m4 i) = _; rw [e4, hf _ _ _ _ _ _ _ (gm_c (m3 i)) (gm_k (m3 i)) (gm_g (m3 i))]; show f (m3 i) = _; rw [e3, hf _ _ _ _ _ _ _ (gm_c (m2 i)) (gm_k (m2 i)) (gm_g (m2 i))]; show f (m2 i) = _; rw [e2, hf _ _ _ _ _ _ _ (gm_c (m1 i)) (gm_k (m1 i)) (gm_g (m1 i))]; show f (m1 i) = _; rw [e1, hf _ _ _ _ _ _ _ (gm_c (mm i)) (gm_k (mm i)) (gm_g (mm i))]
        have k5 : gm_k (m5 i) = upd (va_cpy (gm_k (mm i)) (gm_k (mm i)) (am_pl key (am_ar a)) (am_pl key (am_ar a) + 1) ((am_ar a).length - am_pl key (am_ar a))) (am_pl key (am_ar a)) (nI key) := by rw [e5]; show gm_k (m4 i) = _; rw [e4]; show gm_k (m3 i) = _; rw [e3]; show upd (gm_k (m2 i)) _ _ = _; rw [e2]; show upd (gm_k (m1 i)) _ _ = _; rw [e1]
        have g5 : gm_g (m5 i) = vp_updL (va_cpy (gm_g (mm i)) (gm_g (mm i)) (am_pl key (am_ar a)) (am_pl key (am_ar a) + 1) ((am_ar a).length - am_pl key (am_ar a))) (am_pl key (am_ar a)) (lN x0) := by rw [e5]; show gm_g (m4 i) = _; rw [e4]; show vp_updL (gm_g (m3 i)) _ _ = _; rw [e3]; show vp_updL (gm_g (m2 i)) _ _ = _; rw [e2]; show vp_updL (va_cpy (gm_g (m1 i)) (gm_g (m1 i)) _ _ _) _ _ = _; rw [e1]
        refine ⟨?_, ?_, ?_, ?_, ?_⟩
        · rw [same gm_n (fun _ _ _ _ _ _ _ _ _ _ => rfl)]; exact hM.1
        · rw [same gm_q (fun _ _ _ _ _ _ _ _ _ _ => rfl), same gm_s (fun _ _ _ _ _ _ _ _ _ _ => rfl)]; exact hM.2.1
        · rw [same gm_e (fun _ _ _ _ _ _ _ _ _ _ => rfl)]; exact hM.2.2.1
        · rw [e5]
          show nI ((am_ar a).length + 1) = nI (am_in key x0 (am_ar a)).length
          rw [hin, am_ins_len hple]
        · intro j z hz
          have hz : (am_in key x0 (am_ar a))[j]? = some z := hz
          rw [hin, am_ins_at hple] at hz
          rw [k5, g5]
          by_cases j1 : j < am_pl key (am_ar a)
          · rw [if_pos j1] at hz
            obtain ⟨g1, g2⟩ := hM.2.2.2.2 _ _ hz
            exact ⟨by rw [pk_un (by omega), pk_cpy_out (by omega)]; exact g1, by rw [pk_uLn (by omega), pk_cpy_out (by omega)]; exact g2⟩
          · rw [if_neg j1] at hz
            by_cases j2 : j = am_pl key (am_ar a)
            · rw [if_pos j2] at hz
              cases hz
              subst j2
              exact ⟨pk_us, pk_uLs⟩
            · rw [if_neg j2] at hz
              have jl : j - 1 < (am_ar a).length := (List.getElem?_eq_some_iff.mp hz).1
              obtain ⟨g1, g2⟩ := hM.2.2.2.2 _ _ hz
              exact ⟨by rw [pk_un (by omega), pk_cpy_in (by omega) (by omega), show am_pl key (am_ar a) + (j - (am_pl key (am_ar a) + 1)) = j - 1 by omega]; exact g1, by rw [pk_uLn (by omega), pk_cpy_in (by omega) (by omega), show am_pl key (am_ar a) + (j - (am_pl key (am_ar a) + 1)) = j - 1 by omega]; exact g2⟩
    · refine gx_iconst (v := nI 0) C dd_Ma_bring_56 (kk := ?_)
      refine gx_zret C dd_Ma_bring_57 (by first | rfl | exact fb_nar) ?_
      have hno : am_has key (am_ar a) = false := by
        simp [am_has, List.getElem?_eq_none (show (am_ar a).length ≤ am_pl key (am_ar a) by omega)]
      rw [nI_ltI (by omega) (by omega)] at h53
      exact Or.inr ⟨by simp [am_rm, hno]; omega, rfl, rfl⟩
  · rw [nI_leI (by omega) (by omega)] at h13
    refine gx_aload_n C 1 dd_Ma_bring_16 (kk := ?_)
    refine gm_get C fd_Ma_27 (by assumption) dd_Ma_bring_17 (kk := ?_)
    refine gx_iload C 0 dd_Ma_bring_20 (kk := ?_)
    refine gm_ln_k C hi dd_Ma_bring_22 (by omega) (kk := ?_)
    obtain ⟨x, hx⟩ : ∃ x, (am_ar a)[am_pl key (am_ar a)]? = some x := ⟨_, List.getElem?_eq_getElem (by omega)⟩
    obtain ⟨hx1, hx2⟩ := hM.2.2.2.2 _ _ hx
    obtain ⟨hxb, hxc⟩ := hb.2.2.1 x (List.mem_of_getElem? hx)
    refine gx_topi _ hx1 ?_
    refine gx_iload_n C 2 dd_Ma_bring_23 (kk := ?_)
    refine gx_icmp_ne C 47 dd_Ma_bring_24 (fun h24 => ?_) (fun h24 => ?_)
    · refine gx_aload_n C 1 dd_Ma_bring_47 (kk := ?_)
      refine gm_get C fd_Ma_41 hi dd_Ma_bring_48 (kk := ?_)
      refine gx_topi _ hM.2.2.2.1 ?_
      refine gx_bipush (v := nI 64) C dd_Ma_bring_51 (kk := ?_)
      refine gx_icmp_lt C 58 dd_Ma_bring_53 (fun h53 => ?_) (fun h53 => ?_)
      · rw [nI_ltI (by omega) (by omega)] at h53
        refine gx_aload_n C 1 dd_Ma_bring_58 (kk := ?_)
        refine gm_get C fd_Ma_27 (by assumption) dd_Ma_bring_59 (kk := ?_)
        refine gx_iload C 0 dd_Ma_bring_62 (kk := ?_)
        refine gx_aload_n C 1 dd_Ma_bring_64 (kk := ?_)
        refine gm_get C fd_Ma_27 (by assumption) dd_Ma_bring_65 (kk := ?_)
        refine gx_iload C 0 dd_Ma_bring_68 (kk := ?_)
        refine gx_iconst (v := nI 1) C dd_Ma_bring_70 (kk := ?_)
        refine gx_iadd C dd_Ma_bring_71 (kk := ?_)
        refine gx_topi _ (nI_add _ _) ?_
        refine gx_aload_n C 1 dd_Ma_bring_72 (kk := ?_)
        refine gm_get C fd_Ma_41 hi dd_Ma_bring_73 (kk := ?_)
        refine gx_topi _ hM.2.2.2.1 ?_
        refine gx_iload C 0 dd_Ma_bring_76 (kk := ?_)
        refine gx_isub C dd_Ma_bring_78 (kk := ?_)
        refine gx_topi _ (pk_sub (by omega)) ?_
        refine gm_cp_kV C ml_Ma_56 hi (by omega) (by omega) dd_Ma_bring_79 (kk := fun m1 e1 f1 u1 => ?_)
        refine gx_aload_n C 1 dd_Ma_bring_82 (kk := ?_)
        refine gm_get C fd_Ma_31 (by assumption) dd_Ma_bring_83 (kk := ?_)
        refine gx_iload C 0 dd_Ma_bring_86 (kk := ?_)
        refine gx_aload_n C 1 dd_Ma_bring_88 (kk := ?_)
        refine gm_get C fd_Ma_31 (by assumption) dd_Ma_bring_89 (kk := ?_)
        refine gx_iload C 0 dd_Ma_bring_92 (kk := ?_)
        refine gx_iconst (v := nI 1) C dd_Ma_bring_94 (kk := ?_)
        refine gx_iadd C dd_Ma_bring_95 (kk := ?_)
        refine gx_topi _ (nI_add _ _) ?_
        refine gx_aload_n C 1 dd_Ma_bring_96 (kk := ?_)
        refine gm_get C fd_Ma_41 hi dd_Ma_bring_97 (kk := ?_)
        refine gx_topi (nI (am_ar a).length) (by rw [e1]; exact hM.2.2.2.1) ?_
        refine gx_iload C 0 dd_Ma_bring_100 (kk := ?_)
        refine gx_isub C dd_Ma_bring_102 (kk := ?_)
        refine gx_topi _ (pk_sub (by omega)) ?_
        refine gm_cp_gV C ml_Ma_56 hi (by omega) (by omega) dd_Ma_bring_103 (kk := fun m2 e2 f2 u2 => ?_)
        refine gx_aload_n C 1 dd_Ma_bring_106 (kk := ?_)
        refine gm_get C fd_Ma_27 (by assumption) dd_Ma_bring_107 (kk := ?_)
        refine gx_iload C 0 dd_Ma_bring_110 (kk := ?_)
        refine gx_iload_n C 2 dd_Ma_bring_112 (kk := ?_)
        refine gm_sn_kV C hi dd_Ma_bring_113 (by omega) (kk := fun m3 e3 f3 u3 => ?_)
        refine gx_aload_n C 1 dd_Ma_bring_114 (kk := ?_)
        refine gm_get C fd_Ma_31 (by assumption) dd_Ma_bring_115 (kk := ?_)
        refine gx_iload C 0 dd_Ma_bring_118 (kk := ?_)
        refine gx_lload_n C 3 dd_Ma_bring_120 (kk := ?_)
        refine gm_sn_gV C hi dd_Ma_bring_121 (by omega) (kk := fun m4 e4 f4 u4 => ?_)
        refine gx_aload_n C 1 dd_Ma_bring_122 (kk := ?_)
        refine gx_dup C dd_Ma_bring_123 (kk := ?_)
        refine gm_get C fd_Ma_41 hi dd_Ma_bring_124 (kk := ?_)
        refine gx_topi (nI (am_ar a).length) (by rw [e4]; show gm_c (m3 i) = _; rw [e3]; show gm_c (m2 i) = _; rw [e2]; show gm_c (m1 i) = _; rw [e1]; exact hM.2.2.2.1) ?_
        refine gx_iconst (v := nI 1) C dd_Ma_bring_127 (kk := ?_)
        refine gx_iadd C dd_Ma_bring_128 (kk := ?_)
        refine gx_topi _ (nI_add _ _) ?_
        refine gm_put_cV C fw_Ma_41 hi dd_Ma_bring_129 (kk := fun m5 e5 f5 u5 => ?_)
        refine gx_iconst (v := nI 1) C dd_Ma_bring_132 (kk := ?_)
        refine gx_zret C dd_Ma_bring_133 (by first | rfl | exact fb_nar) ?_
        have hno : am_has key (am_ar a) = false := by
          rw [nI_eq (by omega) (by omega)] at h24
          simp [am_has, hx, h24]
        have hin : am_in key x0 (am_ar a) = (am_ar a).take (am_pl key (am_ar a)) ++ (key, x0) :: (am_ar a).drop (am_pl key (am_ar a)) := by
          unfold am_in
          unfold am_has at hno
          split
          · rename_i y hy
            rw [hy] at hno
            have hne : ¬ y.1 = key := by simpa using hno
            rw [if_neg hne]
          · rfl
        refine Or.inl ⟨by simp [am_rm, h53], rfl, m5 i, ?_, ?_⟩
        · rw [← gm_ch (gm_ch (gm_ch (gm_ch u1 u2) u3) u4) u5]
        · have same : ∀ {α : Type} (f : gm_V → α), (∀ n q s e c k g c2 k2 g2, f (n, q, s, e, c, k, g) = f (n, q, s, e, c2, k2, g2)) → f (m5 i) = f (mm i) := fun f hf => by rw [e5, hf _ _ _ _ _ _ _ (gm_c (m4 i)) (gm_k (m4 i)) (gm_g (m4 i))]; show f (m4 i) = _; rw [e4, hf _ _ _ _ _ _ _ (gm_c (m3 i)) (gm_k (m3 i)) (gm_g (m3 i))]; show f (m3 i) = _; rw [e3, hf _ _ _ _ _ _ _ (gm_c (m2 i)) (gm_k (m2 i)) (gm_g (m2 i))]; show f (m2 i) = _; rw [e2, hf _ _ _ _ _ _ _ (gm_c (m1 i)) (gm_k (m1 i)) (gm_g (m1 i))]; show f (m1 i) = _; rw [e1, hf _ _ _ _ _ _ _ (gm_c (mm i)) (gm_k (mm i)) (gm_g (mm i))]
          have k5 : gm_k (m5 i) = upd (va_cpy (gm_k (mm i)) (gm_k (mm i)) (am_pl key (am_ar a)) (am_pl key (am_ar a) + 1) ((am_ar a).length - am_pl key (am_ar a))) (am_pl key (am_ar a)) (nI key) := by rw [e5]; show gm_k (m4 i) = _; rw [e4]; show gm_k (m3 i) = _; rw [e3]; show upd (gm_k (m2 i)) _ _ = _; rw [e2]; show upd (gm_k (m1 i)) _ _ = _; rw [e1]
          have g5 : gm_g (m5 i) = vp_updL (va_cpy (gm_g (mm i)) (gm_g (mm i)) (am_pl key (am_ar a)) (am_pl key (am_ar a) + 1) ((am_ar a).length - am_pl key (am_ar a))) (am_pl key (am_ar a)) (lN x0) := by rw [e5]; show gm_g (m4 i) = _; rw [e4]; show vp_updL (gm_g (m3 i)) _ _ = _; rw [e3]; show vp_updL (gm_g (m2 i)) _ _ = _; rw [e2]; show vp_updL (va_cpy (gm_g (m1 i)) (gm_g (m1 i)) _ _ _) _ _ = _; rw [e1]
          refine ⟨?_, ?_, ?_, ?_, ?_⟩
          · rw [same gm_n (fun _ _ _ _ _ _ _ _ _ _ => rfl)]; exact hM.1
          · rw [same gm_q (fun _ _ _ _ _ _ _ _ _ _ => rfl), same gm_s (fun _ _ _ _ _ _ _ _ _ _ => rfl)]; exact hM.2.1
          · rw [same gm_e (fun _ _ _ _ _ _ _ _ _ _ => rfl)]; exact hM.2.2.1
          · rw [e5]
            show nI ((am_ar a).length + 1) = nI (am_in key x0 (am_ar a)).length
            rw [hin, am_ins_len hple]
          · intro j z hz
            have hz : (am_in key x0 (am_ar a))[j]? = some z := hz
            rw [hin, am_ins_at hple] at hz
            rw [k5, g5]
            by_cases j1 : j < am_pl key (am_ar a)
            · rw [if_pos j1] at hz
              obtain ⟨g1, g2⟩ := hM.2.2.2.2 _ _ hz
              exact ⟨by rw [pk_un (by omega), pk_cpy_out (by omega)]; exact g1, by rw [pk_uLn (by omega), pk_cpy_out (by omega)]; exact g2⟩
            · rw [if_neg j1] at hz
              by_cases j2 : j = am_pl key (am_ar a)
              · rw [if_pos j2] at hz
                cases hz
                subst j2
                exact ⟨pk_us, pk_uLs⟩
              · rw [if_neg j2] at hz
                have jl : j - 1 < (am_ar a).length := (List.getElem?_eq_some_iff.mp hz).1
                obtain ⟨g1, g2⟩ := hM.2.2.2.2 _ _ hz
                exact ⟨by rw [pk_un (by omega), pk_cpy_in (by omega) (by omega), show am_pl key (am_ar a) + (j - (am_pl key (am_ar a) + 1)) = j - 1 by omega]; exact g1, by rw [pk_uLn (by omega), pk_cpy_in (by omega) (by omega), show am_pl key (am_ar a) + (j - (am_pl key (am_ar a) + 1)) = j - 1 by omega]; exact g2⟩
      · refine gx_iconst (v := nI 0) C dd_Ma_bring_56 (kk := ?_)
        refine gx_zret C dd_Ma_bring_57 (by first | rfl | exact fb_nar) ?_
        have hno : am_has key (am_ar a) = false := by
          rw [nI_eq (by omega) (by omega)] at h24
          simp [am_has, hx, h24]
        rw [nI_ltI (by omega) (by omega)] at h53
        exact Or.inr ⟨by simp [am_rm, hno]; omega, rfl, rfl⟩
    · refine gx_aload_n C 1 dd_Ma_bring_27 (kk := ?_)
      refine gm_get C fd_Ma_31 (by assumption) dd_Ma_bring_28 (kk := ?_)
      refine gx_iload C 0 dd_Ma_bring_31 (kk := ?_)
      refine gx_aload_n C 1 dd_Ma_bring_33 (kk := ?_)
      refine gm_get C fd_Ma_31 (by assumption) dd_Ma_bring_34 (kk := ?_)
      refine gx_iload C 0 dd_Ma_bring_37 (kk := ?_)
      refine gm_ln_g C hi dd_Ma_bring_39 (by omega) (kk := ?_)
      refine gx_topl _ hx2 ?_
      refine gx_lload_n C 3 dd_Ma_bring_40 (kk := ?_)
      refine gx_min C ml_Ma_50 dd_Ma_bring_41 (kk := ?_)
      refine gx_topl (lN (if x0 < x.2 then x0 else x.2)) (lN_min (by omega) (by omega)) ?_
      refine gm_sn_gV C hi dd_Ma_bring_44 (by omega) (kk := fun m1 e1 f1 u1 => ?_)
      refine gx_iconst (v := nI 1) C dd_Ma_bring_45 (kk := ?_)
      refine gx_zret C dd_Ma_bring_46 (by first | rfl | exact fb_nar) ?_
      rw [nI_eq (by omega) (by omega)] at h24
      refine Or.inl ⟨?_, rfl, m1 i, by rw [← u1], ?_⟩
      · simp [am_rm, am_has, hx, h24]
      · rw [e1]
        refine ⟨hM.1, hM.2.1, hM.2.2.1, ?_, ?_⟩
        · show gm_c (mm i) = nI (am_in key x0 (am_ar a)).length
          simp only [am_in, hx, h24, if_true, List.length_set]
          exact hM.2.2.2.1
        · intro j z hz
          have hz : (am_in key x0 (am_ar a))[j]? = some z := hz
          simp only [am_in, hx, h24, if_true] at hz
          rw [List.getElem?_set] at hz
          show gm_k (mm i) j = _ ∧ vp_updL (gm_g (mm i)) (am_pl key (am_ar a)) (lN (if x0 < x.2 then x0 else x.2)) j = _
          by_cases hj : am_pl key (am_ar a) = j
          · subst hj
            rw [if_pos rfl, if_pos (by omega)] at hz
            cases hz
            exact ⟨by rw [hx1, h24], by simp [vp_updL]⟩
          · rw [if_neg hj] at hz
            obtain ⟨g1, g2⟩ := hM.2.2.2.2 _ _ hz
            exact ⟨g1, by simp only [vp_updL, if_neg (Ne.symm hj)]; exact g2⟩
def am_sw (a : am_T) : Nat := match am_st a with
  | none => 0
  | some x => x.2
def am_f9 (o : Option Nat) : Bool := match o with
  | none => true
  | some e => decide (e ≤ 1000000000)
def am_fe (f : Nat → Option Nat) : Nat → Bool
  | 0 => true
  | n + 1 => am_fe f n && am_f9 (f n)
def am_fa (l : List (Nat × Nat)) (j : Nat) : Bool := (l.take j).all (fun x => decide (x.2 ≤ 1000000000))
def am_fit (a : am_T) : Bool := decide (am_sw a ≤ 1000000000) && am_fe (am_en a) (am_n a) && am_fa (am_ar a) (am_ar a).length
theorem am_fa_s {l : List (Nat × Nat)} {j : Nat} {x : Nat × Nat} (h : l[j]? = some x) : am_fa l (j + 1) = (am_fa l j && decide (x.2 ≤ 1000000000)) := by
  unfold am_fa
  rw [List.take_add_one, h]
  simp [List.all_append]
theorem am_sw_s {M : gm_V} {a : am_T} (h : gm_is M a) : gm_s M = lN (am_sw a) := by
  have h1 := h.2.1
  unfold am_sw
  cases hs : am_st a with
  | none => rw [hs] at h1; exact h1.2
  | some x => rw [hs] at h1; exact h1.2
theorem lN_e9 {w : Nat} (h : w < 2 ^ 63) : 1000000000 < lN w ↔ 1000000000 < w := pk_lLT (a := 1000000000) (by decide) h
theorem am_e_e9 {o : Option Nat} (h : ∀ w, o = some w → w < 2 ^ 63) : (1000000000 < am_e o) ↔ am_f9 o = false := by
  cases o with
  | none => exact ⟨fun q => absurd q (by decide), fun q => by cases q⟩
  | some w =>
    rw [show am_e (some w) = lN w from rfl, lN_e9 (h w rfl)]
    simp [am_f9]
theorem ts_nf {x : Bool} (h : ¬ x = false) : x = true := by cases x with
  | false => exact absurd rfl h
  | true => rfl
set_option maxRecDepth 100000 in
set_option maxHeartbeats 4000000 in
theorem ct_Ma_weightsFit (l : Launch) (D : va_G) (dA : Nat → ClassId) (ad : Nat → Nat) (mm : Nat → gm_V) (r : Nat → va_E) {i : Nat} {a : am_T} {B : Nat} (hi : i < 5) (hM : gm_is (mm i) a) (hb : am_b B a) (hB : B ≤ 2 ^ 62) : gx_Ct l D dA yy_Ma_weightsFit cc_Ma_weightsFit 3 (some .boolean) 0 0 0 [.ref (ad (2 + 4 * i))] (gx_w ad (gm_h dA ad mm r)) (fun v w => v = some (.int (nI (am_fit a).toNat)) ∧ w = (gx_w ad (gm_h dA ad mm r))) := by
  refine gx_of (by decide) (Nat.le_of_ble_eq_true rfl) (fun K C _ _ => ?_)
  have hl64 := hb.2.1
  have hn16 := hb.1
  have hsw : am_sw a < 2 ^ 63 := by
    unfold am_sw
    cases hst : am_st a with
    | none => simp
    | some x => have := (hb.2.2.2.2 x hst).2; simp; omega
  have loop2 : ∀ m j, j + m = (am_ar a).length → gx_G K D 3 0 0 58 [(2, .int (nI j)), (1, .int (nI (decide (am_sw a ≤ 1000000000) && am_fe (am_en a) (am_n a) && am_fa (am_ar a) j).toNat)), (0, .ref (ad (2 + 4 * i)))] [] (gx_w ad (gm_h dA ad mm r)) (gx_Z K D dA 0 0 (fun v w => v = some (.int (nI (am_fit a).toNat)) ∧ w = (gx_w ad (gm_h dA ad mm r)))) := by
    intro m
    induction m with
    | zero =>
      intro j hj
      refine gx_iload_n C 0 dd_Ma_weightsFit_58 (kk := ?_)
      refine gx_aload_n C 2 dd_Ma_weightsFit_59 (kk := ?_)
      refine gm_get C fd_Ma_41 hi dd_Ma_weightsFit_60 (kk := ?_)
      refine gx_topi _ hM.2.2.2.1 ?_
      refine gx_icmp_ge C 95 dd_Ma_weightsFit_63 (fun h63 => ?_) (fun h63 => absurd (nI_le (a := (am_ar a).length) (b := j) (by omega) (by omega)) h63)
      refine gx_iload_n C 1 dd_Ma_weightsFit_95 (kk := ?_)
      refine gx_zret C dd_Ma_weightsFit_96 (by first | rfl | exact fb_nar) ?_
      rw [show j = (am_ar a).length by omega]
      exact ⟨rfl, rfl⟩
    | succ m ih =>
      intro j hj
      refine gx_iload_n C 0 dd_Ma_weightsFit_58 (kk := ?_)
      refine gx_aload_n C 2 dd_Ma_weightsFit_59 (kk := ?_)
      refine gm_get C fd_Ma_41 hi dd_Ma_weightsFit_60 (kk := ?_)
      refine gx_topi _ hM.2.2.2.1 ?_
      refine gx_icmp_ge C 95 dd_Ma_weightsFit_63 (fun h63 => absurd h63 (nI_ge (by omega) (by omega))) (fun h63 => ?_)
      obtain ⟨x, hx⟩ : ∃ x, (am_ar a)[j]? = some x := ⟨_, List.getElem?_eq_getElem (by omega)⟩
      obtain ⟨hx1, hx2⟩ := hM.2.2.2.2 _ _ hx
      obtain ⟨hxb, hxc⟩ := hb.2.2.1 x (List.mem_of_getElem? hx)
      refine gx_iload_n C 1 dd_Ma_weightsFit_66 (kk := ?_)
      refine gx_if_eq C 87 dd_Ma_weightsFit_67 (fun h67 => ?_) (fun h67 => ?_)
      · refine gx_iconst (v := nI 0) C dd_Ma_weightsFit_87 (kk := ?_)
        refine gx_topi (nI (decide (am_sw a ≤ 1000000000) && am_fe (am_en a) (am_n a) && am_fa (am_ar a) (j + 1)).toNat) ?_ ?_
        · rw [fb_0] at h67
          rw [am_fa_s hx, ← Bool.and_assoc, h67]
          rfl
        refine gx_istore_n C _ dd_Ma_weightsFit_88 (kk := ?_)
        refine gx_iinc C 1 (nI (j + 1)) _ dd_Ma_weightsFit_89 (nI_1 j) (kk := ?_)
        refine gx_goto C 58 dd_Ma_weightsFit_92 (kk := ?_)
        exact ih (j + 1) (by omega)
      · refine gx_aload_n C 2 dd_Ma_weightsFit_70 (kk := ?_)
        refine gm_get C fd_Ma_31 (by assumption) dd_Ma_weightsFit_71 (kk := ?_)
        refine gx_iload_n C 0 dd_Ma_weightsFit_74 (kk := ?_)
        refine gm_ln_g C hi dd_Ma_weightsFit_75 (by omega) (kk := ?_)
        refine gx_ldc2 C dd_Ma_weightsFit_76 kc_Ma_62 (kk := ?_)
        refine gx_lcmp C dd_Ma_weightsFit_79 (kk := ?_)
        refine gx_if_gt C 87 dd_Ma_weightsFit_80 (fun h80 => ?_) (fun h80 => ?_)
        · refine gx_iconst (v := nI 0) C dd_Ma_weightsFit_87 (kk := ?_)
          refine gx_topi (nI (decide (am_sw a ≤ 1000000000) && am_fe (am_en a) (am_n a) && am_fa (am_ar a) (j + 1)).toNat) ?_ ?_
          · rw [lc_gt, hx2, lN_e9 (by omega)] at h80
            rw [am_fa_s hx, ← Bool.and_assoc, decide_eq_false (show ¬ x.2 ≤ 1000000000 by omega), Bool.and_false]
            rfl
          refine gx_istore_n C _ dd_Ma_weightsFit_88 (kk := ?_)
          refine gx_iinc C 1 (nI (j + 1)) _ dd_Ma_weightsFit_89 (nI_1 j) (kk := ?_)
          refine gx_goto C 58 dd_Ma_weightsFit_92 (kk := ?_)
          exact ih (j + 1) (by omega)
        · refine gx_iconst (v := nI 1) C dd_Ma_weightsFit_83 (kk := ?_)
          refine gx_goto C 88 dd_Ma_weightsFit_84 (kk := ?_)
          refine gx_topi (nI (decide (am_sw a ≤ 1000000000) && am_fe (am_en a) (am_n a) && am_fa (am_ar a) (j + 1)).toNat) ?_ ?_
          · rw [lc_gt, hx2, lN_e9 (by omega)] at h80
            rw [fb_0] at h67
            rw [am_fa_s hx, ← Bool.and_assoc, decide_eq_true (show x.2 ≤ 1000000000 by omega), ts_nf h67]
            rfl
          refine gx_istore_n C _ dd_Ma_weightsFit_88 (kk := ?_)
          refine gx_iinc C 1 (nI (j + 1)) _ dd_Ma_weightsFit_89 (nI_1 j) (kk := ?_)
          refine gx_goto C 58 dd_Ma_weightsFit_92 (kk := ?_)
          exact ih (j + 1) (by omega)
  have loop1 : ∀ m j, j + m = am_n a → gx_G K D 3 0 0 19 [(2, .int (nI j)), (1, .int (nI (decide (am_sw a ≤ 1000000000) && am_fe (am_en a) j).toNat)), (0, .ref (ad (2 + 4 * i)))] [] (gx_w ad (gm_h dA ad mm r)) (gx_Z K D dA 0 0 (fun v w => v = some (.int (nI (am_fit a).toNat)) ∧ w = (gx_w ad (gm_h dA ad mm r)))) := by
    intro m
    induction m with
    | zero =>
      intro j hj
      refine gx_iload_n C 0 dd_Ma_weightsFit_19 (kk := ?_)
      refine gx_aload_n C 2 dd_Ma_weightsFit_20 (kk := ?_)
      refine gm_get C fd_Ma_34 hi dd_Ma_weightsFit_21 (kk := ?_)
      refine gx_topi _ hM.1 ?_
      refine gx_icmp_ge C 56 dd_Ma_weightsFit_24 (fun h24 => ?_) (fun h24 => absurd (nI_le (a := am_n a) (b := j) (by omega) (by omega)) h24)
      refine gx_iconst (v := nI 0) C dd_Ma_weightsFit_56 (kk := ?_)
      refine gx_istore_n C _ dd_Ma_weightsFit_57 (kk := ?_)
      rw [show j = am_n a by omega]
      rw [show (decide (am_sw a ≤ 1000000000) && am_fe (am_en a) (am_n a)) = (decide (am_sw a ≤ 1000000000) && am_fe (am_en a) (am_n a) && am_fa (am_ar a) 0) by simp [am_fa]]
      exact loop2 (am_ar a).length 0 (by omega)
    | succ m ih =>
      intro j hj
      refine gx_iload_n C 0 dd_Ma_weightsFit_19 (kk := ?_)
      refine gx_aload_n C 2 dd_Ma_weightsFit_20 (kk := ?_)
      refine gm_get C fd_Ma_34 hi dd_Ma_weightsFit_21 (kk := ?_)
      refine gx_topi _ hM.1 ?_
      refine gx_icmp_ge C 56 dd_Ma_weightsFit_24 (fun h24 => absurd h24 (nI_ge (by omega) (by omega))) (fun h24 => ?_)
      refine gx_iload_n C 1 dd_Ma_weightsFit_27 (kk := ?_)
      refine gx_if_eq C 48 dd_Ma_weightsFit_28 (fun h28 => ?_) (fun h28 => ?_)
      · refine gx_iconst (v := nI 0) C dd_Ma_weightsFit_48 (kk := ?_)
        refine gx_topi (nI (decide (am_sw a ≤ 1000000000) && am_fe (am_en a) (j + 1)).toNat) ?_ ?_
        · rw [fb_0] at h28
          simp only [am_fe, ← Bool.and_assoc, h28]
          rfl
        refine gx_istore_n C _ dd_Ma_weightsFit_49 (kk := ?_)
        refine gx_iinc C 1 (nI (j + 1)) _ dd_Ma_weightsFit_50 (nI_1 j) (kk := ?_)
        refine gx_goto C 19 dd_Ma_weightsFit_53 (kk := ?_)
        exact ih (j + 1) (by omega)
      · refine gx_aload_n C 2 dd_Ma_weightsFit_31 (kk := ?_)
        refine gm_get C fd_Ma_15 (by assumption) dd_Ma_weightsFit_32 (kk := ?_)
        refine gx_iload_n C 0 dd_Ma_weightsFit_35 (kk := ?_)
        refine gm_ln_e C hi dd_Ma_weightsFit_36 (by omega) (kk := ?_)
        refine gx_ldc2 C dd_Ma_weightsFit_37 kc_Ma_62 (kk := ?_)
        refine gx_lcmp C dd_Ma_weightsFit_40 (kk := ?_)
        refine gx_if_gt C 48 dd_Ma_weightsFit_41 (fun h41 => ?_) (fun h41 => ?_)
        · refine gx_iconst (v := nI 0) C dd_Ma_weightsFit_48 (kk := ?_)
          refine gx_topi (nI (decide (am_sw a ≤ 1000000000) && am_fe (am_en a) (j + 1)).toNat) ?_ ?_
          · rw [lc_gt, hM.2.2.1 j (by omega), am_e_e9 (fun w hw => Nat.lt_of_lt_of_le (hb.2.2.2.1 _ _ hw) (by omega))] at h41
            simp only [am_fe, ← Bool.and_assoc, h41, Bool.and_false]
            rfl
          refine gx_istore_n C _ dd_Ma_weightsFit_49 (kk := ?_)
          refine gx_iinc C 1 (nI (j + 1)) _ dd_Ma_weightsFit_50 (nI_1 j) (kk := ?_)
          refine gx_goto C 19 dd_Ma_weightsFit_53 (kk := ?_)
          exact ih (j + 1) (by omega)
        · refine gx_iconst (v := nI 1) C dd_Ma_weightsFit_44 (kk := ?_)
          refine gx_goto C 49 dd_Ma_weightsFit_45 (kk := ?_)
          refine gx_topi (nI (decide (am_sw a ≤ 1000000000) && am_fe (am_en a) (j + 1)).toNat) ?_ ?_
          · rw [lc_gt, hM.2.2.1 j (by omega), am_e_e9 (fun w hw => Nat.lt_of_lt_of_le (hb.2.2.2.1 _ _ hw) (by omega))] at h41
            rw [fb_0] at h28
            simp only [am_fe, ← Bool.and_assoc, ts_nf h41, ts_nf h28]
            rfl
          refine gx_istore_n C _ dd_Ma_weightsFit_49 (kk := ?_)
          refine gx_iinc C 1 (nI (j + 1)) _ dd_Ma_weightsFit_50 (nI_1 j) (kk := ?_)
          refine gx_goto C 19 dd_Ma_weightsFit_53 (kk := ?_)
          exact ih (j + 1) (by omega)
  refine gx_aload_n C 0 dd_Ma_weightsFit_0 (kk := ?_)
  refine gm_get C fd_Ma_37 (by assumption) dd_Ma_weightsFit_1 (kk := ?_)
  refine gx_ldc2 C dd_Ma_weightsFit_4 kc_Ma_62 (kk := ?_)
  refine gx_lcmp C dd_Ma_weightsFit_7 (kk := ?_)
  refine gx_if_gt C 15 dd_Ma_weightsFit_8 (fun h8 => ?_) (fun h8 => ?_)
  · refine gx_iconst (v := nI 0) C dd_Ma_weightsFit_15 (kk := ?_)
    refine gx_topi (nI (decide (am_sw a ≤ 1000000000) && am_fe (am_en a) 0).toNat) ?_ ?_
    · rw [lc_gt, am_sw_s hM, lN_e9 (by omega)] at h8
      rw [decide_eq_false (by omega)]
      rfl
    refine gx_istore_n C _ dd_Ma_weightsFit_16 (kk := ?_)
    refine gx_iconst (v := nI 0) C dd_Ma_weightsFit_17 (kk := ?_)
    refine gx_istore_n C _ dd_Ma_weightsFit_18 (kk := ?_)
    exact loop1 (am_n a) 0 (by omega)
  · refine gx_iconst (v := nI 1) C dd_Ma_weightsFit_11 (kk := ?_)
    refine gx_goto C 16 dd_Ma_weightsFit_12 (kk := ?_)
    refine gx_topi (nI (decide (am_sw a ≤ 1000000000) && am_fe (am_en a) 0).toNat) ?_ ?_
    · rw [lc_gt, am_sw_s hM, lN_e9 (by omega)] at h8
      rw [decide_eq_true (show am_sw a ≤ 1000000000 by omega)]
      rfl
    refine gx_istore_n C _ dd_Ma_weightsFit_16 (kk := ?_)
    refine gx_iconst (v := nI 0) C dd_Ma_weightsFit_17 (kk := ?_)
    refine gx_istore_n C _ dd_Ma_weightsFit_18 (kk := ?_)
    exact loop1 (am_n a) 0 (by omega)
