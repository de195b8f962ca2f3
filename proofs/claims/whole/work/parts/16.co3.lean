theorem dd_Co_leave_0 : decode cc_Co_leave 0 = .ok (.aload_n 0, 1) := by decide +kernel
theorem dd_Co_leave_1 : decode cc_Co_leave 1 = .ok (.getfield 9, 3) := by decide +kernel
theorem dd_Co_leave_4 : decode cc_Co_leave 4 = .ok (.iload_n 1, 1) := by decide +kernel
theorem dd_Co_leave_5 : decode cc_Co_leave 5 = .ok (.iaload, 1) := by decide +kernel
theorem dd_Co_leave_6 : decode cc_Co_leave 6 = .ok (.bipush 6, 2) := by decide +kernel
theorem dd_Co_leave_8 : decode cc_Co_leave 8 = .ok (.ishr, 1) := by decide +kernel
theorem dd_Co_leave_9 : decode cc_Co_leave 9 = .ok (.istore_n 2, 1) := by decide +kernel
theorem dd_Co_leave_10 : decode cc_Co_leave 10 = .ok (.aload_n 0, 1) := by decide +kernel
theorem dd_Co_leave_11 : decode cc_Co_leave 11 = .ok (.getfield 9, 3) := by decide +kernel
theorem dd_Co_leave_14 : decode cc_Co_leave 14 = .ok (.iload_n 1, 1) := by decide +kernel
theorem dd_Co_leave_15 : decode cc_Co_leave 15 = .ok (.iaload, 1) := by decide +kernel
theorem dd_Co_leave_16 : decode cc_Co_leave 16 = .ok (.iconst 2, 1) := by decide +kernel
theorem dd_Co_leave_17 : decode cc_Co_leave 17 = .ok (.ishr, 1) := by decide +kernel
theorem dd_Co_leave_18 : decode cc_Co_leave 18 = .ok (.bipush 15, 2) := by decide +kernel
theorem dd_Co_leave_20 : decode cc_Co_leave 20 = .ok (.iand, 1) := by decide +kernel
theorem dd_Co_leave_21 : decode cc_Co_leave 21 = .ok (.istore_n 3, 1) := by decide +kernel
theorem dd_Co_leave_22 : decode cc_Co_leave 22 = .ok (.aload_n 0, 1) := by decide +kernel
theorem dd_Co_leave_23 : decode cc_Co_leave 23 = .ok (.getfield 9, 3) := by decide +kernel
theorem dd_Co_leave_26 : decode cc_Co_leave 26 = .ok (.iload_n 1, 1) := by decide +kernel
theorem dd_Co_leave_27 : decode cc_Co_leave 27 = .ok (.iaload, 1) := by decide +kernel
theorem dd_Co_leave_28 : decode cc_Co_leave 28 = .ok (.iconst 3, 1) := by decide +kernel
theorem dd_Co_leave_29 : decode cc_Co_leave 29 = .ok (.iand, 1) := by decide +kernel
theorem dd_Co_leave_30 : decode cc_Co_leave 30 = .ok (.istore 4, 2) := by decide +kernel
theorem dd_Co_leave_32 : decode cc_Co_leave 32 = .ok (.aload_n 0, 1) := by decide +kernel
theorem dd_Co_leave_33 : decode cc_Co_leave 33 = .ok (.getfield 22, 3) := by decide +kernel
theorem dd_Co_leave_36 : decode cc_Co_leave 36 = .ok (.iload_n 1, 1) := by decide +kernel
theorem dd_Co_leave_37 : decode cc_Co_leave 37 = .ok (.aload_n 0, 1) := by decide +kernel
theorem dd_Co_leave_38 : decode cc_Co_leave 38 = .ok (.getfield 15, 3) := by decide +kernel
theorem dd_Co_leave_41 : decode cc_Co_leave 41 = .ok (.iload_n 2, 1) := by decide +kernel
theorem dd_Co_leave_42 : decode cc_Co_leave 42 = .ok (.invokevirtual 58, 3) := by decide +kernel
theorem dd_Co_leave_45 : decode cc_Co_leave 45 = .ok (.aload_n 0, 1) := by decide +kernel
theorem dd_Co_leave_46 : decode cc_Co_leave 46 = .ok (.getfield 19, 3) := by decide +kernel
theorem dd_Co_leave_49 : decode cc_Co_leave 49 = .ok (.iload_n 3, 1) := by decide +kernel
theorem dd_Co_leave_50 : decode cc_Co_leave 50 = .ok (.invokevirtual 58, 3) := by decide +kernel
theorem dd_Co_leave_53 : decode cc_Co_leave 53 = .ok (.ladd, 1) := by decide +kernel
theorem dd_Co_leave_54 : decode cc_Co_leave 54 = .ok (.invokevirtual 62, 3) := by decide +kernel
theorem dd_Co_leave_57 : decode cc_Co_leave 57 = .ok (.aload_n 0, 1) := by decide +kernel
theorem dd_Co_leave_58 : decode cc_Co_leave 58 = .ok (.iload_n 1, 1) := by decide +kernel
theorem dd_Co_leave_59 : decode cc_Co_leave 59 = .ok (.iload_n 2, 1) := by decide +kernel
theorem dd_Co_leave_60 : decode cc_Co_leave 60 = .ok (.iload_n 3, 1) := by decide +kernel
theorem dd_Co_leave_61 : decode cc_Co_leave 61 = .ok (.iconst 0, 1) := by decide +kernel
theorem dd_Co_leave_62 : decode cc_Co_leave 62 = .ok (.invokevirtual 65, 3) := by decide +kernel
theorem dd_Co_leave_65 : decode cc_Co_leave 65 = .ok (.ifCond .eq 55, 3) := by decide +kernel
theorem dd_Co_leave_68 : decode cc_Co_leave 68 = .ok (.iload 4, 2) := by decide +kernel
theorem dd_Co_leave_70 : decode cc_Co_leave 70 = .ok (.ifCond .ne 14, 3) := by decide +kernel
theorem dd_Co_leave_73 : decode cc_Co_leave 73 = .ok (.aload_n 0, 1) := by decide +kernel
theorem dd_Co_leave_74 : decode cc_Co_leave 74 = .ok (.iload_n 1, 1) := by decide +kernel
theorem dd_Co_leave_75 : decode cc_Co_leave 75 = .ok (.iload_n 2, 1) := by decide +kernel
theorem dd_Co_leave_76 : decode cc_Co_leave 76 = .ok (.iload_n 3, 1) := by decide +kernel
theorem dd_Co_leave_77 : decode cc_Co_leave 77 = .ok (.iconst 1, 1) := by decide +kernel
theorem dd_Co_leave_78 : decode cc_Co_leave 78 = .ok (.invokevirtual 65, 3) := by decide +kernel
theorem dd_Co_leave_81 : decode cc_Co_leave 81 = .ok (.ifCond .eq 39, 3) := by decide +kernel
theorem dd_Co_leave_84 : decode cc_Co_leave 84 = .ok (.iload 4, 2) := by decide +kernel
theorem dd_Co_leave_86 : decode cc_Co_leave 86 = .ok (.iconst 2, 1) := by decide +kernel
theorem dd_Co_leave_87 : decode cc_Co_leave 87 = .ok (.if_icmp .eq 13, 3) := by decide +kernel
theorem dd_Co_leave_90 : decode cc_Co_leave 90 = .ok (.aload_n 0, 1) := by decide +kernel
theorem dd_Co_leave_91 : decode cc_Co_leave 91 = .ok (.iload_n 1, 1) := by decide +kernel
theorem dd_Co_leave_92 : decode cc_Co_leave 92 = .ok (.iload_n 2, 1) := by decide +kernel
theorem dd_Co_leave_93 : decode cc_Co_leave 93 = .ok (.iload_n 3, 1) := by decide +kernel
theorem dd_Co_leave_94 : decode cc_Co_leave 94 = .ok (.invokevirtual 69, 3) := by decide +kernel
theorem dd_Co_leave_97 : decode cc_Co_leave 97 = .ok (.ifCond .eq 23, 3) := by decide +kernel
theorem dd_Co_leave_100 : decode cc_Co_leave 100 = .ok (.iload 4, 2) := by decide +kernel
theorem dd_Co_leave_102 : decode cc_Co_leave 102 = .ok (.iconst 1, 1) := by decide +kernel
theorem dd_Co_leave_103 : decode cc_Co_leave 103 = .ok (.if_icmp .eq 13, 3) := by decide +kernel
theorem dd_Co_leave_106 : decode cc_Co_leave 106 = .ok (.aload_n 0, 1) := by decide +kernel
theorem dd_Co_leave_107 : decode cc_Co_leave 107 = .ok (.iload_n 1, 1) := by decide +kernel
theorem dd_Co_leave_108 : decode cc_Co_leave 108 = .ok (.iload_n 2, 1) := by decide +kernel
theorem dd_Co_leave_109 : decode cc_Co_leave 109 = .ok (.iload_n 3, 1) := by decide +kernel
theorem dd_Co_leave_110 : decode cc_Co_leave 110 = .ok (.invokevirtual 73, 3) := by decide +kernel
theorem dd_Co_leave_113 : decode cc_Co_leave 113 = .ok (.ifCond .eq 7, 3) := by decide +kernel
theorem dd_Co_leave_116 : decode cc_Co_leave 116 = .ok (.iconst 1, 1) := by decide +kernel
theorem dd_Co_leave_117 : decode cc_Co_leave 117 = .ok (.goto 4, 3) := by decide +kernel
theorem dd_Co_leave_120 : decode cc_Co_leave 120 = .ok (.iconst 0, 1) := by decide +kernel
theorem dd_Co_leave_121 : decode cc_Co_leave 121 = .ok (.ireturn, 1) := by decide +kernel
theorem dd_Co_build_0 : decode cc_Co_build 0 = .ok (.aload_n 0, 1) := by decide +kernel
theorem dd_Co_build_1 : decode cc_Co_build 1 = .ok (.aload_n 1, 1) := by decide +kernel
theorem dd_Co_build_2 : decode cc_Co_build 2 = .ok (.putfield 15, 3) := by decide +kernel
theorem dd_Co_build_5 : decode cc_Co_build 5 = .ok (.aload_n 0, 1) := by decide +kernel
theorem dd_Co_build_6 : decode cc_Co_build 6 = .ok (.aload_n 2, 1) := by decide +kernel
theorem dd_Co_build_7 : decode cc_Co_build 7 = .ok (.putfield 19, 3) := by decide +kernel
theorem dd_Co_build_10 : decode cc_Co_build 10 = .ok (.aload_n 0, 1) := by decide +kernel
theorem dd_Co_build_11 : decode cc_Co_build 11 = .ok (.aload_n 3, 1) := by decide +kernel
theorem dd_Co_build_12 : decode cc_Co_build 12 = .ok (.putfield 22, 3) := by decide +kernel
theorem dd_Co_build_15 : decode cc_Co_build 15 = .ok (.aload_n 0, 1) := by decide +kernel
theorem dd_Co_build_16 : decode cc_Co_build 16 = .ok (.getfield 22, 3) := by decide +kernel
theorem dd_Co_build_19 : decode cc_Co_build 19 = .ok (.iconst 0, 1) := by decide +kernel
theorem dd_Co_build_20 : decode cc_Co_build 20 = .ok (.invokevirtual 25, 3) := by decide +kernel
theorem dd_Co_build_23 : decode cc_Co_build 23 = .ok (.aload_n 1, 1) := by decide +kernel
theorem dd_Co_build_24 : decode cc_Co_build 24 = .ok (.getfield 31, 3) := by decide +kernel
theorem dd_Co_build_27 : decode cc_Co_build 27 = .ok (.iconst (-1), 1) := by decide +kernel
theorem dd_Co_build_28 : decode cc_Co_build 28 = .ok (.if_icmp .eq 11, 3) := by decide +kernel
theorem dd_Co_build_31 : decode cc_Co_build 31 = .ok (.aload_n 2, 1) := by decide +kernel
theorem dd_Co_build_32 : decode cc_Co_build 32 = .ok (.getfield 31, 3) := by decide +kernel
theorem dd_Co_build_35 : decode cc_Co_build 35 = .ok (.iconst (-1), 1) := by decide +kernel
theorem dd_Co_build_36 : decode cc_Co_build 36 = .ok (.if_icmp .ne 5, 3) := by decide +kernel
theorem dd_Co_build_39 : decode cc_Co_build 39 = .ok (.iconst 1, 1) := by decide +kernel
theorem dd_Co_build_40 : decode cc_Co_build 40 = .ok (.ireturn, 1) := by decide +kernel
theorem dd_Co_build_41 : decode cc_Co_build 41 = .ok (.aload_n 0, 1) := by decide +kernel
theorem dd_Co_build_42 : decode cc_Co_build 42 = .ok (.aload_n 1, 1) := by decide +kernel
theorem dd_Co_build_43 : decode cc_Co_build 43 = .ok (.getfield 31, 3) := by decide +kernel
theorem dd_Co_build_46 : decode cc_Co_build 46 = .ok (.aload_n 2, 1) := by decide +kernel
theorem dd_Co_build_47 : decode cc_Co_build 47 = .ok (.getfield 31, 3) := by decide +kernel
theorem dd_Co_build_50 : decode cc_Co_build 50 = .ok (.iconst 0, 1) := by decide +kernel
theorem dd_Co_build_51 : decode cc_Co_build 51 = .ok (.invokestatic 35, 3) := by decide +kernel
theorem dd_Co_build_54 : decode cc_Co_build 54 = .ok (.invokevirtual 39, 3) := by decide +kernel
theorem dd_Co_build_57 : decode cc_Co_build 57 = .ok (.istore 4, 2) := by decide +kernel
theorem dd_Co_build_59 : decode cc_Co_build 59 = .ok (.aload_n 0, 1) := by decide +kernel
theorem dd_Co_build_60 : decode cc_Co_build 60 = .ok (.getfield 22, 3) := by decide +kernel
theorem dd_Co_build_63 : decode cc_Co_build 63 = .ok (.iload 4, 2) := by decide +kernel
theorem dd_Co_build_65 : decode cc_Co_build 65 = .ok (.aload_n 1, 1) := by decide +kernel
theorem dd_Co_build_66 : decode cc_Co_build 66 = .ok (.getfield 43, 3) := by decide +kernel
theorem dd_Co_build_69 : decode cc_Co_build 69 = .ok (.aload_n 2, 1) := by decide +kernel
theorem dd_Co_build_70 : decode cc_Co_build 70 = .ok (.getfield 43, 3) := by decide +kernel
theorem dd_Co_build_73 : decode cc_Co_build 73 = .ok (.ladd, 1) := by decide +kernel
theorem dd_Co_build_74 : decode cc_Co_build 74 = .ok (.invokevirtual 47, 3) := by decide +kernel
theorem dd_Co_build_77 : decode cc_Co_build 77 = .ok (.iconst 1, 1) := by decide +kernel
theorem dd_Co_build_78 : decode cc_Co_build 78 = .ok (.istore 5, 2) := by decide +kernel
theorem dd_Co_build_80 : decode cc_Co_build 80 = .ok (.iconst 0, 1) := by decide +kernel
theorem dd_Co_build_81 : decode cc_Co_build 81 = .ok (.istore 6, 2) := by decide +kernel
theorem dd_Co_build_83 : decode cc_Co_build 83 = .ok (.iload 6, 2) := by decide +kernel
theorem dd_Co_build_85 : decode cc_Co_build 85 = .ok (.bipush 16, 2) := by decide +kernel
theorem dd_Co_build_87 : decode cc_Co_build 87 = .ok (.if_icmp .ge 34, 3) := by decide +kernel
theorem dd_Co_build_90 : decode cc_Co_build 90 = .ok (.iload 6, 2) := by decide +kernel
theorem dd_Co_build_92 : decode cc_Co_build 92 = .ok (.aload_n 0, 1) := by decide +kernel
theorem dd_Co_build_93 : decode cc_Co_build 93 = .ok (.getfield 22, 3) := by decide +kernel
theorem dd_Co_build_96 : decode cc_Co_build 96 = .ok (.getfield 51, 3) := by decide +kernel
theorem dd_Co_build_99 : decode cc_Co_build 99 = .ok (.if_icmp .ge 22, 3) := by decide +kernel
theorem dd_Co_build_102 : decode cc_Co_build 102 = .ok (.iload 5, 2) := by decide +kernel
theorem dd_Co_build_104 : decode cc_Co_build 104 = .ok (.ifCond .eq 17, 3) := by decide +kernel
theorem dd_Co_build_107 : decode cc_Co_build 107 = .ok (.aload_n 0, 1) := by decide +kernel
theorem dd_Co_build_108 : decode cc_Co_build 108 = .ok (.iload 6, 2) := by decide +kernel
theorem dd_Co_build_110 : decode cc_Co_build 110 = .ok (.invokevirtual 54, 3) := by decide +kernel
theorem dd_Co_build_113 : decode cc_Co_build 113 = .ok (.istore 5, 2) := by decide +kernel
theorem dd_Co_build_115 : decode cc_Co_build 115 = .ok (.iinc 6 1, 3) := by decide +kernel
theorem dd_Co_build_118 : decode cc_Co_build 118 = .ok (.goto (-35), 3) := by decide +kernel
theorem dd_Co_build_121 : decode cc_Co_build 121 = .ok (.iload 5, 2) := by decide +kernel
theorem dd_Co_build_123 : decode cc_Co_build 123 = .ok (.ireturn, 1) := by decide +kernel
def co_oa (x y : Option Nat) : Option Nat := match x, y with
  | some a, some b => some (a + b)
  | _, _ => none
theorem co_oa_e {x y : Option Nat} (hx : ∀ a, x = some a → a < 2 ^ 59) (hy : ∀ a, y = some a → a < 2 ^ 59) : (if am_f x + am_f y < 1152921504606846976 then am_f x + am_f y else -1) = am_e (co_oa x y) := by
  rw [am_f_n, am_f_n, lN_add]
  have h3 : ∀ n, n < 2 ^ 63 → (lN n < 1152921504606846976 ↔ n < 1152921504606846976) := fun n hn => pk_lLT (b := 1152921504606846976) hn (by decide)
  cases x with
  | none =>
    cases y with
    | none => rw [if_neg (by rw [h3 _ (by decide)]; decide)]; rfl
    | some b =>
      have := hy b rfl
      rw [if_neg (by rw [h3 _ (by show 1152921504606846976 + b < 2 ^ 63; omega)]; show ¬ 1152921504606846976 + b < _; omega)]
      rfl
  | some a =>
    have := hx a rfl
    cases y with
    | none =>
      rw [if_neg (by rw [h3 _ (by show a + 1152921504606846976 < 2 ^ 63; omega)]; show ¬ a + 1152921504606846976 < _; omega)]
      rfl
    | some b =>
      have := hy b rfl
      rw [if_pos (by rw [h3 _ (by show a + b < 2 ^ 63; omega)]; show a + b < _; omega)]
      rfl
theorem co_oa_b {x y : Option Nat} {B : Nat} (hx : ∀ a, x = some a → a < B) (hy : ∀ a, y = some a → a < B) : ∀ e, co_oa x y = some e → e < 2 * B := by
  intro e he
  cases x with
  | none => cases he
  | some a =>
    cases y with
    | none => cases he
    | some b =>
      have := hx a rfl
      have := hy b rfl
      cases he
      show a + b < 2 * B
      omega
theorem co_iv_end {M : gm_V} {tri : Nat → Int32} {st : Option (Nat × Nat)} {en : Nat → Option Nat} {c : co_S} {s : Nat} {o : Option Nat} {z : Int64} (h : co_iv M tri st en c) (hz : z = am_e o) (ho : ∀ e, o = some e → e < 4000000000) : co_iv (gm_n M, gm_q M, gm_s M, vp_updL (gm_e M) s z, gm_c M, gm_k M, gm_g M) tri st (va_up en s o) c := by
  refine ⟨⟨h.1.1, h.1.2.1, fun q hq => ?_, h.1.2.2.2⟩, h.2.1, h.2.2.1, h.2.2.2.1, h.2.2.2.2.1, h.2.2.2.2.2.1, h.2.2.2.2.2.2.1, fun q e he => ?_, h.2.2.2.2.2.2.2.2⟩
  · show vp_updL (gm_e M) s z q = am_e (va_up en s o q)
    by_cases hqs : q = s
    · subst hqs
      rw [pk_uLs, gm_us, hz]
    · rw [pk_uLn hqs, gm_un hqs]
      exact h.1.2.2.1 q hq
  · by_cases hqs : q = s
    · subst hqs
      have he : va_up en q o q = some e := he
      rw [gm_us] at he
      exact ho e he
    · have he : va_up en s o q = some e := he
      rw [gm_un hqs] at he
      exact h.2.2.2.2.2.2.2.1 q e he
set_option maxRecDepth 100000 in
set_option maxHeartbeats 4000000 in
theorem ct_Co_leave (l : Launch) (D : va_G) (dA : Nat → ClassId) (ad : Nat → Nat) (mm : Nat → gm_V) (r : Nat → va_E) {ia ib im : Nat} {tri : Nat → Int32} {st : Option (Nat × Nat)} {en : Nat → Option Nat} {c : co_S} (him : im < 5) (h22 : r 22 = .inr (2, [.ref (ad (2 + 4 * ia)), .ref (ad (2 + 4 * ib)), .ref (ad (2 + 4 * im)), .ref (ad 23)])) (h23 : r 23 = .inl (dA 0, 16, .inl tri)) (hI : co_iv (mm im) tri st en c) {a : am_T} (hia : ia < 5) (hna : ia ≠ im) (hMa : gm_is (mm ia) a) (hba : am_b 1000000001 a) (hsa : am_so (am_ar a)) {b : am_T} (hib : ib < 5) (hnb : ib ≠ im) (hMb : gm_is (mm ib) b) (hbb : am_b 1000000001 b) (hsb : am_so (am_ar b)) {s : Nat} {t : co_t} (ht : c.1[s]? = some t) : gx_Ct l D dA yy_Co_leave cc_Co_leave 5 (some .boolean) 4 0 0 [.ref (ad 22), .int (nI s)] (gx_w ad (gm_h dA ad mm r)) (fun v w => ∃ M tri2, w = (gx_w ad (gm_h dA ad (va_up mm im M) (va_up r 23 (.inl (dA 0, 16, .inl tri2))))) ∧ co_bq v M tri2 st (va_up en s (co_oa (am_en a t.1) (am_en b t.2.1))) (co_run s (co_items (am_ar a) (am_ar b) t) c)) := by
  refine gx_of (by decide) (Nat.le_of_ble_eq_true rfl) (fun K C _ _ => ?_)
  have hn16 : c.1.length ≤ 16 := hI.2.2.2.2.1
  have hsl : s < c.1.length := (List.getElem?_eq_some_iff.mp ht).1
  have hs : s < 16 := by omega
  have htk := hI.2.2.1 t (List.mem_of_getElem? ht)
  have htl := co_cd_lt htk
  obtain ⟨ht1, ht2, ht3⟩ := htk
  obtain ⟨R, hR⟩ : ∃ R, co_run s (co_items (am_ar a) (am_ar b) t) c = R := ⟨_, rfl⟩
  rw [hR]
  unfold co_items at hR
  refine gx_aload_n C 0 dd_Co_leave_0 (kk := ?_)
  refine gx_get C fd_Co_9 (gm_r (by assumption)) dd_Co_leave_1 (kk := ?_)
  refine gx_iload_n C 1 dd_Co_leave_4 (kk := ?_)
  refine gz_iaload C h23 dd_Co_leave_5 (by omega) (kk := ?_)
  refine gx_topi _ (hI.2.1 s t ht) ?_
  refine gx_bipush (v := nI 6) C dd_Co_leave_6 (kk := ?_)
  refine gx_ishr C dd_Co_leave_8 (kk := ?_)
  refine gx_topi (nI t.1) (by rw [pk_shrN (by omega) _ 6 (by decide)]; congr 1; simp only [co_cd]; omega) ?_
  refine gx_istore_n C _ dd_Co_leave_9 (kk := ?_)
  refine gx_aload_n C 1 dd_Co_leave_10 (kk := ?_)
  refine gx_get C fd_Co_9 (gm_r (by assumption)) dd_Co_leave_11 (kk := ?_)
  refine gx_iload_n C 2 dd_Co_leave_14 (kk := ?_)
  refine gz_iaload C h23 dd_Co_leave_15 (by omega) (kk := ?_)
  refine gx_topi _ (hI.2.1 s t ht) ?_
  refine gx_iconst (v := nI 2) C dd_Co_leave_16 (kk := ?_)
  refine gx_ishr C dd_Co_leave_17 (kk := ?_)
  refine gx_topi _ (pk_shrN (by omega) _ 2 (by decide)) ?_
  refine gx_bipush (v := nI 15) C dd_Co_leave_18 (kk := ?_)
  refine gx_iand C dd_Co_leave_20 (kk := ?_)
  refine gx_topi (nI t.2.1) (by rw [pk_andN (by omega) 4 (by decide)]; congr 1; simp only [co_cd]; omega) ?_
  refine gx_istore_n C _ dd_Co_leave_21 (kk := ?_)
  refine gx_aload_n C 2 dd_Co_leave_22 (kk := ?_)
  refine gx_get C fd_Co_9 (gm_r (by assumption)) dd_Co_leave_23 (kk := ?_)
  refine gx_iload_n C 3 dd_Co_leave_26 (kk := ?_)
  refine gz_iaload C h23 dd_Co_leave_27 (by omega) (kk := ?_)
  refine gx_topi _ (hI.2.1 s t ht) ?_
  refine gx_iconst (v := nI 3) C dd_Co_leave_28 (kk := ?_)
  refine gx_iand C dd_Co_leave_29 (kk := ?_)
  refine gx_topi (nI t.2.2) (by rw [pk_andN (by omega) 2 (by decide)]; congr 1; simp only [co_cd]; omega) ?_
  refine gx_istore C _ dd_Co_leave_30 (kk := ?_)
  refine gx_aload_n C 3 dd_Co_leave_32 (kk := ?_)
  refine gx_get C fd_Co_22 (gm_r (by assumption)) dd_Co_leave_33 (kk := ?_)
  refine gx_iload_n C 4 dd_Co_leave_36 (kk := ?_)
  refine gx_aload_n C 3 dd_Co_leave_37 (kk := ?_)
  refine gx_get C fd_Co_15 (gm_r (by assumption)) dd_Co_leave_38 (kk := ?_)
  refine gx_iload_n C 2 dd_Co_leave_41 (kk := ?_)
  refine gx_callV C (ct_Ma_endOrFar (gx_l K) D dA ad mm r (q := t.1) hia (by omega) hMa (fun q e he => Nat.lt_trans (hba.2.2.2.1 q e he) (by decide))) me_Ma_endOrFar ml_Co_58 mn_Ma_endOrFar _ (gx_w_at (by omega) (gm_at (j := 0) hia (by decide))) rfl dd_Co_leave_42 (kk := fun v w hq => ?_)
  obtain ⟨rfl, rfl⟩ := hq
  refine gx_aload_n C 3 dd_Co_leave_45 (kk := ?_)
  refine gx_get C fd_Co_19 (gm_r (by assumption)) dd_Co_leave_46 (kk := ?_)
  refine gx_iload_n C 1 dd_Co_leave_49 (kk := ?_)
  refine gx_callV C (ct_Ma_endOrFar (gx_l K) D dA ad mm r (q := t.2.1) hib (by omega) hMb (fun q e he => Nat.lt_trans (hbb.2.2.2.1 q e he) (by decide))) me_Ma_endOrFar ml_Co_58 mn_Ma_endOrFar _ (gx_w_at (by omega) (gm_at (j := 0) hib (by decide))) rfl dd_Co_leave_50 (kk := fun v w hq => ?_)
  obtain ⟨rfl, rfl⟩ := hq
  refine gx_ladd C dd_Co_leave_53 (kk := ?_)
  refine gx_callV C (ct_Ma_setEndUnlessFar (gx_l K) D dA ad mm r (q := s) him (by omega) _) me_Ma_setEndUnlessFar ml_Co_62 mn_Ma_setEndUnlessFar _ (gx_w_at (by omega) (gm_at (j := 0) him (by decide))) rfl dd_Co_leave_54 (kk := fun v w hq => ?_)
  obtain ⟨rfl, rfl⟩ := hq
  replace hI := co_iv_end (s := s) hI (co_oa_e (x := am_en a t.1) (y := am_en b t.2.1) (fun e he => Nat.lt_trans (hba.2.2.2.1 _ e he) (by decide)) (fun e he => Nat.lt_trans (hbb.2.2.2.1 _ e he) (by decide))) (fun e he => Nat.lt_trans (co_oa_b (fun e he => hba.2.2.2.1 _ e he) (fun e he => hbb.2.2.2.1 _ e he) e he) (by decide))
  obtain ⟨M, hM⟩ : ∃ M, M = (gm_n (mm im), gm_q (mm im), gm_s (mm im), vp_updL (gm_e (mm im)) s (if am_f (am_en a t.1) + am_f (am_en b t.2.1) < 1152921504606846976 then am_f (am_en a t.1) + am_f (am_en b t.2.1) else -1), gm_c (mm im), gm_k (mm im), gm_g (mm im)) := ⟨_, rfl⟩
  rw [← hM] at hI ⊢
  refine gx_wld (ws' := gx_w ad (gm_h dA ad (va_up mm im M) (va_up r 23 (.inl (dA 0, 16, .inl tri))))) (by rw [← h23, gm_ue]) ?_
  refine gx_aload_n C 3 dd_Co_leave_57 (kk := ?_)
  refine gx_iload_n C 4 dd_Co_leave_58 (kk := ?_)
  refine gx_iload_n C 2 dd_Co_leave_59 (kk := ?_)
  refine gx_iload_n C 1 dd_Co_leave_60 (kk := ?_)
  refine gx_iconst (v := nI 0) C dd_Co_leave_61 (kk := ?_)
  refine gx_callV C (ct_Co_bringBoth (gx_l K) D dA ad (va_up mm im M) (va_up r 23 (.inl (dA 0, 16, .inl tri))) him ((gm_un (by decide)).trans h22) gm_us (by rw [gm_us]; exact hI) hia hna (by rw [gm_un hna]; exact hMa) hba hsa hib hnb (by rw [gm_un hnb]; exact hMb) hbb hsb (s := s) (p := t.1) (q := t.2.1) (empty := false) hs (by omega) (by omega)) me_Co_bringBoth ml_Co_65 mn_Co_bringBoth _ (gx_w_at (by decide) (gm_r ((gm_un (by decide)).trans h22))) rfl dd_Co_leave_62 (kk := fun v w hq => ?_)
  obtain ⟨M, tri, rfl, hq⟩ := hq
  rw [gm_uu, gm_uu]
  rcases hbr : co_run s (co_both (am_ar a) (am_ar b) t.1 t.2.1 false) c with _ | c
  · rw [hbr] at hq
    have hq : v = some (.int (nI 0)) := hq
    subst hq
    rw [co_run_app, hbr] at hR
    refine gx_if_eq C 120 dd_Co_leave_65 (fun h65 => ?_) (fun h65 => absurd rfl h65)
    refine gx_iconst (v := nI 0) C dd_Co_leave_120 (kk := ?_)
    refine gx_zret C dd_Co_leave_121 (by first | rfl | exact fb_nar) ?_
    exact ⟨M, tri, rfl, by rw [← hR]; rfl⟩
  · rw [hbr] at hq
    obtain ⟨hv, hI⟩ := hq
    subst hv
    rw [co_run_app, hbr] at hR
    try dsimp only at hR
    refine gx_if_eq C 120 dd_Co_leave_65 (fun h65 => absurd h65 (by decide)) (fun h65 => ?_)
    refine gx_iload C 0 dd_Co_leave_68 (kk := ?_)
    refine gx_if_ne C 84 dd_Co_leave_70 (fun h70 => ?_) (fun h70 => ?_)
    · rw [show (0 : Int32) = nI 0 from rfl, nI_eq (by omega) (by decide)] at h70
      rw [if_neg h70, List.nil_append] at hR
      refine gx_iload C 0 dd_Co_leave_84 (kk := ?_)
      refine gx_iconst (v := nI 2) C dd_Co_leave_86 (kk := ?_)
      refine gx_icmp_eq C 100 dd_Co_leave_87 (fun h87 => ?_) (fun h87 => ?_)
      · rw [nI_eq (by omega) (by decide)] at h87
        rw [if_pos h87, List.nil_append] at hR
        refine gx_iload C 0 dd_Co_leave_100 (kk := ?_)
        refine gx_iconst (v := nI 1) C dd_Co_leave_102 (kk := ?_)
        refine gx_icmp_eq C 116 dd_Co_leave_103 (fun h103 => ?_) (fun h103 => ?_)
        · rw [nI_eq (by omega) (by decide)] at h103
          rw [if_pos h103] at hR
          refine gx_iconst (v := nI 1) C dd_Co_leave_116 (kk := ?_)
          refine gx_goto C 121 dd_Co_leave_117 (kk := ?_)
          refine gx_zret C dd_Co_leave_121 (by first | rfl | exact fb_nar) ?_
          exact ⟨M, tri, rfl, by rw [← hR]; exact ⟨rfl, hI⟩⟩
        · rw [nI_eq (by omega) (by decide)] at h103
          rw [if_neg h103] at hR
          refine gx_aload_n C 3 dd_Co_leave_106 (kk := ?_)
          refine gx_iload_n C 4 dd_Co_leave_107 (kk := ?_)
          refine gx_iload_n C 2 dd_Co_leave_108 (kk := ?_)
          refine gx_iload_n C 1 dd_Co_leave_109 (kk := ?_)
          refine gx_callV C (ct_Co_bringSecond (gx_l K) D dA ad (va_up mm im M) (va_up r 23 (.inl (dA 0, 16, .inl tri))) him ((gm_un (by decide)).trans h22) gm_us (by rw [gm_us]; exact hI) hib hnb (by rw [gm_un hnb]; exact hMb) hbb hsb (s := s) (p := t.1) (q := t.2.1) hs (by omega) (by omega)) me_Co_bringSecond ml_Co_73 mn_Co_bringSecond _ (gx_w_at (by decide) (gm_r ((gm_un (by decide)).trans h22))) rfl dd_Co_leave_110 (kk := fun v w hq => ?_)
          obtain ⟨M, tri, rfl, hq⟩ := hq
          rw [gm_uu, gm_uu]
          rcases hbr : co_run s (co_second (am_ar b) t.1 t.2.1) c with _ | c
          · rw [hbr] at hq
            have hq : v = some (.int (nI 0)) := hq
            subst hq
            rw [hbr] at hR
            refine gx_if_eq C 120 dd_Co_leave_113 (fun h113 => ?_) (fun h113 => absurd rfl h113)
            refine gx_iconst (v := nI 0) C dd_Co_leave_120 (kk := ?_)
            refine gx_zret C dd_Co_leave_121 (by first | rfl | exact fb_nar) ?_
            exact ⟨M, tri, rfl, by rw [← hR]; rfl⟩
          · rw [hbr] at hq
            obtain ⟨hv, hI⟩ := hq
            subst hv
            rw [hbr] at hR
            try dsimp only at hR
            refine gx_if_eq C 120 dd_Co_leave_113 (fun h113 => absurd h113 (by decide)) (fun h113 => ?_)
            refine gx_iconst (v := nI 1) C dd_Co_leave_116 (kk := ?_)
            refine gx_goto C 121 dd_Co_leave_117 (kk := ?_)
            refine gx_zret C dd_Co_leave_121 (by first | rfl | exact fb_nar) ?_
            exact ⟨M, tri, rfl, by rw [← hR]; exact ⟨rfl, hI⟩⟩
      · rw [nI_eq (by omega) (by decide)] at h87
        rw [if_neg h87] at hR
        refine gx_aload_n C 3 dd_Co_leave_90 (kk := ?_)
        refine gx_iload_n C 4 dd_Co_leave_91 (kk := ?_)
        refine gx_iload_n C 2 dd_Co_leave_92 (kk := ?_)
        refine gx_iload_n C 1 dd_Co_leave_93 (kk := ?_)
        refine gx_callV C (ct_Co_bringFirst (gx_l K) D dA ad (va_up mm im M) (va_up r 23 (.inl (dA 0, 16, .inl tri))) him ((gm_un (by decide)).trans h22) gm_us (by rw [gm_us]; exact hI) hia hna (by rw [gm_un hna]; exact hMa) hba hsa (s := s) (p := t.1) (q := t.2.1) hs (by omega) (by omega)) me_Co_bringFirst ml_Co_69 mn_Co_bringFirst _ (gx_w_at (by decide) (gm_r ((gm_un (by decide)).trans h22))) rfl dd_Co_leave_94 (kk := fun v w hq => ?_)
        obtain ⟨M, tri, rfl, hq⟩ := hq
        rw [gm_uu, gm_uu]
        rcases hbr : co_run s (co_first (am_ar a) t.1 t.2.1) c with _ | c
        · rw [hbr] at hq
          have hq : v = some (.int (nI 0)) := hq
          subst hq
          rw [co_run_app, hbr] at hR
          refine gx_if_eq C 120 dd_Co_leave_97 (fun h97 => ?_) (fun h97 => absurd rfl h97)
          refine gx_iconst (v := nI 0) C dd_Co_leave_120 (kk := ?_)
          refine gx_zret C dd_Co_leave_121 (by first | rfl | exact fb_nar) ?_
          exact ⟨M, tri, rfl, by rw [← hR]; rfl⟩
        · rw [hbr] at hq
          obtain ⟨hv, hI⟩ := hq
          subst hv
          rw [co_run_app, hbr] at hR
          try dsimp only at hR
          refine gx_if_eq C 120 dd_Co_leave_97 (fun h97 => absurd h97 (by decide)) (fun h97 => ?_)
          refine gx_iload C 0 dd_Co_leave_100 (kk := ?_)
          refine gx_iconst (v := nI 1) C dd_Co_leave_102 (kk := ?_)
          refine gx_icmp_eq C 116 dd_Co_leave_103 (fun h103 => ?_) (fun h103 => ?_)
          · rw [nI_eq (by omega) (by decide)] at h103
            rw [if_pos h103] at hR
            refine gx_iconst (v := nI 1) C dd_Co_leave_116 (kk := ?_)
            refine gx_goto C 121 dd_Co_leave_117 (kk := ?_)
            refine gx_zret C dd_Co_leave_121 (by first | rfl | exact fb_nar) ?_
            exact ⟨M, tri, rfl, by rw [← hR]; exact ⟨rfl, hI⟩⟩
          · rw [nI_eq (by omega) (by decide)] at h103
            rw [if_neg h103] at hR
            refine gx_aload_n C 3 dd_Co_leave_106 (kk := ?_)
            refine gx_iload_n C 4 dd_Co_leave_107 (kk := ?_)
            refine gx_iload_n C 2 dd_Co_leave_108 (kk := ?_)
            refine gx_iload_n C 1 dd_Co_leave_109 (kk := ?_)
            refine gx_callV C (ct_Co_bringSecond (gx_l K) D dA ad (va_up mm im M) (va_up r 23 (.inl (dA 0, 16, .inl tri))) him ((gm_un (by decide)).trans h22) gm_us (by rw [gm_us]; exact hI) hib hnb (by rw [gm_un hnb]; exact hMb) hbb hsb (s := s) (p := t.1) (q := t.2.1) hs (by omega) (by omega)) me_Co_bringSecond ml_Co_73 mn_Co_bringSecond _ (gx_w_at (by decide) (gm_r ((gm_un (by decide)).trans h22))) rfl dd_Co_leave_110 (kk := fun v w hq => ?_)
            obtain ⟨M, tri, rfl, hq⟩ := hq
            rw [gm_uu, gm_uu]
            rcases hbr : co_run s (co_second (am_ar b) t.1 t.2.1) c with _ | c
            · rw [hbr] at hq
              have hq : v = some (.int (nI 0)) := hq
              subst hq
              rw [hbr] at hR
              refine gx_if_eq C 120 dd_Co_leave_113 (fun h113 => ?_) (fun h113 => absurd rfl h113)
              refine gx_iconst (v := nI 0) C dd_Co_leave_120 (kk := ?_)
              refine gx_zret C dd_Co_leave_121 (by first | rfl | exact fb_nar) ?_
              exact ⟨M, tri, rfl, by rw [← hR]; rfl⟩
            · rw [hbr] at hq
              obtain ⟨hv, hI⟩ := hq
              subst hv
              rw [hbr] at hR
              try dsimp only at hR
              refine gx_if_eq C 120 dd_Co_leave_113 (fun h113 => absurd h113 (by decide)) (fun h113 => ?_)
              refine gx_iconst (v := nI 1) C dd_Co_leave_116 (kk := ?_)
              refine gx_goto C 121 dd_Co_leave_117 (kk := ?_)
              refine gx_zret C dd_Co_leave_121 (by first | rfl | exact fb_nar) ?_
              exact ⟨M, tri, rfl, by rw [← hR]; exact ⟨rfl, hI⟩⟩
    · rw [show (0 : Int32) = nI 0 from rfl, nI_eq (by omega) (by decide)] at h70
      rw [if_pos h70] at hR
      refine gx_aload_n C 3 dd_Co_leave_73 (kk := ?_)
      refine gx_iload_n C 4 dd_Co_leave_74 (kk := ?_)
      refine gx_iload_n C 2 dd_Co_leave_75 (kk := ?_)
      refine gx_iload_n C 1 dd_Co_leave_76 (kk := ?_)
      refine gx_iconst (v := nI 1) C dd_Co_leave_77 (kk := ?_)
      refine gx_callV C (ct_Co_bringBoth (gx_l K) D dA ad (va_up mm im M) (va_up r 23 (.inl (dA 0, 16, .inl tri))) him ((gm_un (by decide)).trans h22) gm_us (by rw [gm_us]; exact hI) hia hna (by rw [gm_un hna]; exact hMa) hba hsa hib hnb (by rw [gm_un hnb]; exact hMb) hbb hsb (s := s) (p := t.1) (q := t.2.1) (empty := true) hs (by omega) (by omega)) me_Co_bringBoth ml_Co_65 mn_Co_bringBoth _ (gx_w_at (by decide) (gm_r ((gm_un (by decide)).trans h22))) rfl dd_Co_leave_78 (kk := fun v w hq => ?_)
      obtain ⟨M, tri, rfl, hq⟩ := hq
      rw [gm_uu, gm_uu]
      rcases hbr : co_run s (co_both (am_ar a) (am_ar b) t.1 t.2.1 true) c with _ | c
      · rw [hbr] at hq
        have hq : v = some (.int (nI 0)) := hq
        subst hq
        rw [co_run_app, hbr] at hR
        refine gx_if_eq C 120 dd_Co_leave_81 (fun h81 => ?_) (fun h81 => absurd rfl h81)
        refine gx_iconst (v := nI 0) C dd_Co_leave_120 (kk := ?_)
        refine gx_zret C dd_Co_leave_121 (by first | rfl | exact fb_nar) ?_
        exact ⟨M, tri, rfl, by rw [← hR]; rfl⟩
      · rw [hbr] at hq
        obtain ⟨hv, hI⟩ := hq
        subst hv
        rw [co_run_app, hbr] at hR
        try dsimp only at hR
        refine gx_if_eq C 120 dd_Co_leave_81 (fun h81 => absurd h81 (by decide)) (fun h81 => ?_)
        refine gx_iload C 0 dd_Co_leave_84 (kk := ?_)
        refine gx_iconst (v := nI 2) C dd_Co_leave_86 (kk := ?_)
        refine gx_icmp_eq C 100 dd_Co_leave_87 (fun h87 => ?_) (fun h87 => ?_)
        · rw [nI_eq (by omega) (by decide)] at h87
          rw [if_pos h87, List.nil_append] at hR
          refine gx_iload C 0 dd_Co_leave_100 (kk := ?_)
          refine gx_iconst (v := nI 1) C dd_Co_leave_102 (kk := ?_)
          refine gx_icmp_eq C 116 dd_Co_leave_103 (fun h103 => ?_) (fun h103 => ?_)
          · rw [nI_eq (by omega) (by decide)] at h103
            rw [if_pos h103] at hR
            refine gx_iconst (v := nI 1) C dd_Co_leave_116 (kk := ?_)
            refine gx_goto C 121 dd_Co_leave_117 (kk := ?_)
            refine gx_zret C dd_Co_leave_121 (by first | rfl | exact fb_nar) ?_
            exact ⟨M, tri, rfl, by rw [← hR]; exact ⟨rfl, hI⟩⟩
          · rw [nI_eq (by omega) (by decide)] at h103
            rw [if_neg h103] at hR
            refine gx_aload_n C 3 dd_Co_leave_106 (kk := ?_)
            refine gx_iload_n C 4 dd_Co_leave_107 (kk := ?_)
            refine gx_iload_n C 2 dd_Co_leave_108 (kk := ?_)
            refine gx_iload_n C 1 dd_Co_leave_109 (kk := ?_)
            refine gx_callV C (ct_Co_bringSecond (gx_l K) D dA ad (va_up mm im M) (va_up r 23 (.inl (dA 0, 16, .inl tri))) him ((gm_un (by decide)).trans h22) gm_us (by rw [gm_us]; exact hI) hib hnb (by rw [gm_un hnb]; exact hMb) hbb hsb (s := s) (p := t.1) (q := t.2.1) hs (by omega) (by omega)) me_Co_bringSecond ml_Co_73 mn_Co_bringSecond _ (gx_w_at (by decide) (gm_r ((gm_un (by decide)).trans h22))) rfl dd_Co_leave_110 (kk := fun v w hq => ?_)
            obtain ⟨M, tri, rfl, hq⟩ := hq
            rw [gm_uu, gm_uu]
            rcases hbr : co_run s (co_second (am_ar b) t.1 t.2.1) c with _ | c
            · rw [hbr] at hq
              have hq : v = some (.int (nI 0)) := hq
              subst hq
              rw [hbr] at hR
              refine gx_if_eq C 120 dd_Co_leave_113 (fun h113 => ?_) (fun h113 => absurd rfl h113)
              refine gx_iconst (v := nI 0) C dd_Co_leave_120 (kk := ?_)
              refine gx_zret C dd_Co_leave_121 (by first | rfl | exact fb_nar) ?_
              exact ⟨M, tri, rfl, by rw [← hR]; rfl⟩
            · rw [hbr] at hq
              obtain ⟨hv, hI⟩ := hq
              subst hv
              rw [hbr] at hR
              try dsimp only at hR
              refine gx_if_eq C 120 dd_Co_leave_113 (fun h113 => absurd h113 (by decide)) (fun h113 => ?_)
              refine gx_iconst (v := nI 1) C dd_Co_leave_116 (kk := ?_)
              refine gx_goto C 121 dd_Co_leave_117 (kk := ?_)
              refine gx_zret C dd_Co_leave_121 (by first | rfl | exact fb_nar) ?_
              exact ⟨M, tri, rfl, by rw [← hR]; exact ⟨rfl, hI⟩⟩
        · rw [nI_eq (by omega) (by decide)] at h87
          rw [if_neg h87] at hR
          refine gx_aload_n C 3 dd_Co_leave_90 (kk := ?_)
          refine gx_iload_n C 4 dd_Co_leave_91 (kk := ?_)
          refine gx_iload_n C 2 dd_Co_leave_92 (kk := ?_)
          refine gx_iload_n C 1 dd_Co_leave_93 (kk := ?_)
          refine gx_callV C (ct_Co_bringFirst (gx_l K) D dA ad (va_up mm im M) (va_up r 23 (.inl (dA 0, 16, .inl tri))) him ((gm_un (by decide)).trans h22) gm_us (by rw [gm_us]; exact hI) hia hna (by rw [gm_un hna]; exact hMa) hba hsa (s := s) (p := t.1) (q := t.2.1) hs (by omega) (by omega)) me_Co_bringFirst ml_Co_69 mn_Co_bringFirst _ (gx_w_at (by decide) (gm_r ((gm_un (by decide)).trans h22))) rfl dd_Co_leave_94 (kk := fun v w hq => ?_)
          obtain ⟨M, tri, rfl, hq⟩ := hq
          rw [gm_uu, gm_uu]
          rcases hbr : co_run s (co_first (am_ar a) t.1 t.2.1) c with _ | c
          · rw [hbr] at hq
            have hq : v = some (.int (nI 0)) := hq
            subst hq
            rw [co_run_app, hbr] at hR
            refine gx_if_eq C 120 dd_Co_leave_97 (fun h97 => ?_) (fun h97 => absurd rfl h97)
            refine gx_iconst (v := nI 0) C dd_Co_leave_120 (kk := ?_)
            refine gx_zret C dd_Co_leave_121 (by first | rfl | exact fb_nar) ?_
            exact ⟨M, tri, rfl, by rw [← hR]; rfl⟩
          · rw [hbr] at hq
            obtain ⟨hv, hI⟩ := hq
            subst hv
            rw [co_run_app, hbr] at hR
            try dsimp only at hR
            refine gx_if_eq C 120 dd_Co_leave_97 (fun h97 => absurd h97 (by decide)) (fun h97 => ?_)
            refine gx_iload C 0 dd_Co_leave_100 (kk := ?_)
            refine gx_iconst (v := nI 1) C dd_Co_leave_102 (kk := ?_)
            refine gx_icmp_eq C 116 dd_Co_leave_103 (fun h103 => ?_) (fun h103 => ?_)
            · rw [nI_eq (by omega) (by decide)] at h103
              rw [if_pos h103] at hR
              refine gx_iconst (v := nI 1) C dd_Co_leave_116 (kk := ?_)
              refine gx_goto C 121 dd_Co_leave_117 (kk := ?_)
              refine gx_zret C dd_Co_leave_121 (by first | rfl | exact fb_nar) ?_
              exact ⟨M, tri, rfl, by rw [← hR]; exact ⟨rfl, hI⟩⟩
            · rw [nI_eq (by omega) (by decide)] at h103
              rw [if_neg h103] at hR
              refine gx_aload_n C 3 dd_Co_leave_106 (kk := ?_)
              refine gx_iload_n C 4 dd_Co_leave_107 (kk := ?_)
              refine gx_iload_n C 2 dd_Co_leave_108 (kk := ?_)
              refine gx_iload_n C 1 dd_Co_leave_109 (kk := ?_)
              refine gx_callV C (ct_Co_bringSecond (gx_l K) D dA ad (va_up mm im M) (va_up r 23 (.inl (dA 0, 16, .inl tri))) him ((gm_un (by decide)).trans h22) gm_us (by rw [gm_us]; exact hI) hib hnb (by rw [gm_un hnb]; exact hMb) hbb hsb (s := s) (p := t.1) (q := t.2.1) hs (by omega) (by omega)) me_Co_bringSecond ml_Co_73 mn_Co_bringSecond _ (gx_w_at (by decide) (gm_r ((gm_un (by decide)).trans h22))) rfl dd_Co_leave_110 (kk := fun v w hq => ?_)
              obtain ⟨M, tri, rfl, hq⟩ := hq
              rw [gm_uu, gm_uu]
              rcases hbr : co_run s (co_second (am_ar b) t.1 t.2.1) c with _ | c
              · rw [hbr] at hq
                have hq : v = some (.int (nI 0)) := hq
                subst hq
                rw [hbr] at hR
                refine gx_if_eq C 120 dd_Co_leave_113 (fun h113 => ?_) (fun h113 => absurd rfl h113)
                refine gx_iconst (v := nI 0) C dd_Co_leave_120 (kk := ?_)
                refine gx_zret C dd_Co_leave_121 (by first | rfl | exact fb_nar) ?_
                exact ⟨M, tri, rfl, by rw [← hR]; rfl⟩
              · rw [hbr] at hq
                obtain ⟨hv, hI⟩ := hq
                subst hv
                rw [hbr] at hR
                try dsimp only at hR
                refine gx_if_eq C 120 dd_Co_leave_113 (fun h113 => absurd h113 (by decide)) (fun h113 => ?_)
                refine gx_iconst (v := nI 1) C dd_Co_leave_116 (kk := ?_)
                refine gx_goto C 121 dd_Co_leave_117 (kk := ?_)
                refine gx_zret C dd_Co_leave_121 (by first | rfl | exact fb_nar) ?_
                exact ⟨M, tri, rfl, by rw [← hR]; exact ⟨rfl, hI⟩⟩
theorem am_b_0 (B : Nat) {c : Nat} (hc : c ≤ 16) : am_b B (c, none, (fun _ => none), []) := ⟨hc, Nat.zero_le _, fun x hx => absurd hx List.not_mem_nil, fun q e he => absurd he (by simp), fun x hx => absurd hx (by simp)⟩
theorem co_br_pre {s : Nat} {c c2 : co_S} {x : co_I} (h : co_br s c x = some c2) : ∃ X, c2.1 = c.1 ++ X := by
  unfold co_br at h
  cases hf : co_fd x.2.2 c.1 with
  | none => rw [hf] at h; cases h
  | some y =>
    rw [hf] at h
    dsimp only at h
    split at h
    · cases h
      unfold co_fd at hf
      split at hf
      · cases hf; exact ⟨[], by simp⟩
      · split at hf
        · cases hf; exact ⟨[x.2.2], rfl⟩
        · cases hf
    · cases h
theorem co_run_pre {s : Nat} : ∀ {I : List co_I} {c c2 : co_S}, co_run s I c = some c2 → ∃ X, c2.1 = c.1 ++ X
  | [], c, c2, h => by cases h; exact ⟨[], by simp⟩
  | x :: t, c, c2, h => by
    rw [co_run_c] at h
    cases hb : co_br s c x with
    | none => rw [hb] at h; cases h
    | some c3 =>
      rw [hb] at h
      obtain ⟨X, hX⟩ := co_br_pre hb
      obtain ⟨Y, hY⟩ := co_run_pre h
      exact ⟨X ++ Y, by rw [hY, hX, List.append_assoc]⟩
/-- the end weights of the states before s -/
def co_es (a b : am_T) (T : List co_t) (s : Nat) : Nat → Option Nat := fun q => if q < s then (match T[q]? with
    | none => none
    | some t => co_oa (am_en a t.1) (am_en b t.2.1)) else none
theorem co_es_s {a b : am_T} {T X : List co_t} {s : Nat} {t : co_t} (ht : T[s]? = some t) : va_up (co_es a b T s) s (co_oa (am_en a t.1) (am_en b t.2.1)) = co_es a b (T ++ X) (s + 1) := by
  have hs : s < T.length := (List.getElem?_eq_some_iff.mp ht).1
  funext q
  unfold co_es
  by_cases h1 : q = s
  · subst h1
    rw [gm_us, if_pos (by omega), List.getElem?_append_left hs, ht]
  · rw [gm_un h1]
    by_cases h2 : q < s
    · rw [if_pos h2, if_pos (by omega), List.getElem?_append_left (by omega)]
    · rw [if_neg h2, if_neg (by omega)]
theorem co_es_0 (a b : am_T) (T : List co_t) : co_es a b T 0 = fun _ => none := by
  funext q
  unfold co_es
  rw [if_neg (by omega)]
/-- the machine that composing makes; none where the room ends -/
def co_mk (a b : am_T) : Option am_T := match am_st a, am_st b with
  | some x, some y => (match co_ex (am_ar a) (am_ar b) 16 0 ([(x.1, y.1, 0)], []) with
    | none => none
    | some c => some (c.1.length, some (0, x.2 + y.2), co_es a b c.1 c.1.length, c.2))
  | _, _ => some (0, none, (fun _ => none), [])
def co_Bq (v : Option Value) (M : gm_V) (o : Option am_T) : Prop := match o with
  | none => v = some (.int (nI 0))
  | some a => v = some (.int (nI 1)) ∧ gm_is M a ∧ am_b 4000000000 a ∧ am_so (am_ar a)
set_option maxRecDepth 100000 in
set_option maxHeartbeats 4000000 in
theorem ct_Co_build (l : Launch) (D : va_G) (dA : Nat → ClassId) (ad : Nat → Nat) (mm : Nat → gm_V) (r : Nat → va_E) {ia ib im : Nat} {tri : Nat → Int32} {x1 x2 x3 : Value} (him : im < 5) (h22 : r 22 = .inr (2, [x1, x2, x3, .ref (ad 23)])) (h23 : r 23 = .inl (dA 0, 16, .inl tri)) {a : am_T} (hia : ia < 5) (hna : ia ≠ im) (hMa : gm_is (mm ia) a) (hba : am_b 1000000001 a) (hsa : am_so (am_ar a)) {b : am_T} (hib : ib < 5) (hnb : ib ≠ im) (hMb : gm_is (mm ib) b) (hbb : am_b 1000000001 b) (hsb : am_so (am_ar b)) : gx_Ct l D dA yy_Co_build cc_Co_build 7 (some .boolean) 5 0 0 [.ref (ad 22), .ref (ad (2 + 4 * ia)), .ref (ad (2 + 4 * ib)), .ref (ad (2 + 4 * im))] (gx_w ad (gm_h dA ad mm r)) (fun v w => ∃ M r2, w = gx_w ad (gm_h dA ad (va_up mm im M) r2) ∧ (∃ tri, r2 22 = .inr (2, [.ref (ad (2 + 4 * ia)), .ref (ad (2 + 4 * ib)), .ref (ad (2 + 4 * im)), .ref (ad 23)]) ∧ r2 23 = .inl (dA 0, 16, .inl tri)) ∧ (∀ k, k ≠ 22 → k ≠ 23 → r2 k = r k) ∧ co_Bq v M (co_mk a b)) := by
  refine gx_of (by decide) (Nat.le_of_ble_eq_true rfl) (fun K C _ _ => ?_)
  refine gx_aload_n C 0 dd_Co_build_0 (kk := ?_)
  refine gx_aload_n C 1 dd_Co_build_1 (kk := ?_)
  refine gz_put C fw_Co_15 h22 dd_Co_build_2 (kk := fun r1 hr1 => ?_)
  have h22a : r1 22 = .inr (2, [.ref (ad (2 + 4 * ia)), x2, x3, .ref (ad 23)]) := by rw [hr1]; exact gm_us
  refine gx_aload_n C 0 dd_Co_build_5 (kk := ?_)
  refine gx_aload_n C 2 dd_Co_build_6 (kk := ?_)
  refine gz_put C fw_Co_19 h22a dd_Co_build_7 (kk := fun r2 hr2 => ?_)
  have h22b : r2 22 = .inr (2, [.ref (ad (2 + 4 * ia)), .ref (ad (2 + 4 * ib)), x3, .ref (ad 23)]) := by rw [hr2]; exact gm_us
  refine gx_aload_n C 0 dd_Co_build_10 (kk := ?_)
  refine gx_aload_n C 3 dd_Co_build_11 (kk := ?_)
  refine gz_put C fw_Co_22 h22b dd_Co_build_12 (kk := fun r3 hr3 => ?_)
  have h22c : r3 22 = .inr (2, [.ref (ad (2 + 4 * ia)), .ref (ad (2 + 4 * ib)), .ref (ad (2 + 4 * im)), .ref (ad 23)]) := by rw [hr3]; exact gm_us
  have hrr : ∀ k, k ≠ 22 → r3 k = r k := fun k hk => by rw [hr3, gm_un hk, hr2, gm_un hk, hr1, gm_un hk]
  have h23c : r3 23 = .inl (dA 0, 16, .inl tri) := (hrr 23 (by decide)).trans h23
  refine gx_aload_n C 0 dd_Co_build_15 (kk := ?_)
  refine gx_get C fd_Co_22 (gm_r h22c) dd_Co_build_16 (kk := ?_)
  refine gx_iconst (v := nI 0) C dd_Co_build_19 (kk := ?_)
  refine gx_callV C (ct_Ma_clear (gx_l K) D dA ad mm r3 (i := im) him 0) me_Ma_clear ml_Co_25 mn_Ma_clear _ (gx_w_at (by omega) (gm_at (j := 0) him (by decide))) rfl dd_Co_build_20 (kk := fun v w hq => ?_)
  obtain ⟨rfl, M0, rfl, hM0⟩ := hq
  cases hsa0 : am_st a with
  | none =>
    have hqa := hMa.2.1
    rw [hsa0] at hqa
    refine gx_aload_n C 1 dd_Co_build_23 (kk := ?_)
    refine gm_get C fd_Co_31 hia dd_Co_build_24 (kk := ?_)
    refine gx_topi (-1) (by rw [gm_un hna]; exact hqa.1) ?_
    refine gx_iconst (v := -1) C dd_Co_build_27 (kk := ?_)
    refine gx_icmp_eq C 39 dd_Co_build_28 (fun h28 => ?_) (fun h28 => absurd rfl h28)
    refine gx_iconst (v := nI 1) C dd_Co_build_39 (kk := ?_)
    refine gx_zret C dd_Co_build_40 (by first | rfl | exact fb_nar) ?_
    refine ⟨M0, r3, rfl, ⟨tri, h22c, h23c⟩, fun k hk _ => hrr k hk, ?_⟩
    unfold co_mk
    rw [hsa0]
    exact ⟨rfl, hM0, am_b_0 _ (by decide), List.Pairwise.nil⟩
  | some x =>
   have hqa := hMa.2.1
   rw [hsa0] at hqa
   obtain ⟨hx1, hx2⟩ := hba.2.2.2.2 x hsa0
   cases hsb0 : am_st b with
   | none =>
    have hqb := hMb.2.1
    rw [hsb0] at hqb
    refine gx_aload_n C 1 dd_Co_build_23 (kk := ?_)
    refine gm_get C fd_Co_31 hia dd_Co_build_24 (kk := ?_)
    refine gx_topi (nI x.1) (by rw [gm_un hna]; exact hqa.1) ?_
    refine gx_iconst (v := -1) C dd_Co_build_27 (kk := ?_)
    refine gx_icmp_eq C 39 dd_Co_build_28 (fun h28 => absurd h28 (nI_m1 (by omega))) (fun h28 => ?_)
    refine gx_aload_n C 2 dd_Co_build_31 (kk := ?_)
    refine gm_get C fd_Co_31 hib dd_Co_build_32 (kk := ?_)
    refine gx_topi (-1) (by rw [gm_un hnb]; exact hqb.1) ?_
    refine gx_iconst (v := -1) C dd_Co_build_35 (kk := ?_)
    refine gx_icmp_ne C 41 dd_Co_build_36 (fun h36 => absurd rfl h36) (fun h36 => ?_)
    refine gx_iconst (v := nI 1) C dd_Co_build_39 (kk := ?_)
    refine gx_zret C dd_Co_build_40 (by first | rfl | exact fb_nar) ?_
    refine ⟨M0, r3, rfl, ⟨tri, h22c, h23c⟩, fun k hk _ => hrr k hk, ?_⟩
    unfold co_mk
    rw [hsa0, hsb0]
    exact ⟨rfl, hM0, am_b_0 _ (by decide), List.Pairwise.nil⟩
   | some y =>
    have hqb := hMb.2.1
    rw [hsb0] at hqb
    obtain ⟨hy1, hy2⟩ := hbb.2.2.2.2 y hsb0
    obtain ⟨R, hR1⟩ : ∃ R, co_ex (am_ar a) (am_ar b) 16 0 ([(x.1, y.1, 0)], []) = R := ⟨_, rfl⟩
    have hI0 : co_iv M0 tri none (fun _ => none) ([], []) := ⟨hM0, fun k t h => absurd h (by simp), fun t h => absurd h List.not_mem_nil, List.Pairwise.nil, am_b_0 _ (by decide)⟩
    have fail : ∀ s M tri, s ≤ 16 → none = R → gx_G K D 7 0 0 83 [(6, .int (nI s)), (5, .int (nI 0)), (0, .ref (ad 22)), (1, .ref (ad (2 + 4 * ia))), (2, .ref (ad (2 + 4 * ib))), (3, .ref (ad (2 + 4 * im)))] [] (gx_w ad (gm_h dA ad (va_up mm im M) (va_up r3 23 (.inl (dA 0, 16, .inl tri))))) (gx_Z K D dA 0 0 (fun v w => ∃ M r2, w = gx_w ad (gm_h dA ad (va_up mm im M) r2) ∧ (∃ tri, r2 22 = .inr (2, [.ref (ad (2 + 4 * ia)), .ref (ad (2 + 4 * ib)), .ref (ad (2 + 4 * im)), .ref (ad 23)]) ∧ r2 23 = .inl (dA 0, 16, .inl tri)) ∧ (∀ k, k ≠ 22 → k ≠ 23 → r2 k = r k) ∧ co_Bq v M (co_mk a b))) := by
      intro s M tri hs16 hR
      refine gx_iload C 0 dd_Co_build_83 (kk := ?_)
      refine gx_bipush (v := nI 16) C dd_Co_build_85 (kk := ?_)
      refine gx_icmp_ge C 121 dd_Co_build_87 (fun h87 => ?_) (fun h87 => ?_)
      · refine gx_iload C 1 dd_Co_build_121 (kk := ?_)
        refine gx_zret C dd_Co_build_123 (by first | rfl | exact fb_nar) ?_
        rw [← hR] at hR1
        refine ⟨M, _, rfl, ⟨tri, (gm_un (by decide)).trans h22c, gm_us⟩, fun k h1 h2 => (gm_un h2).trans (hrr k h1), ?_⟩
        unfold co_mk
        rw [hsa0, hsb0]
        dsimp only
        rw [hR1]
        rfl
      · refine gx_iload C 0 dd_Co_build_90 (kk := ?_)
        refine gx_aload_n C 2 dd_Co_build_92 (kk := ?_)
        refine gx_get C fd_Co_22 (gm_r ((gm_un (by decide)).trans h22c)) dd_Co_build_93 (kk := ?_)
        refine gm_get C fd_Co_51 him dd_Co_build_96 (kk := ?_)
        refine gx_icmp_ge C 121 dd_Co_build_99 (fun h99 => ?_) (fun h99 => ?_)
        · refine gx_iload C 1 dd_Co_build_121 (kk := ?_)
          refine gx_zret C dd_Co_build_123 (by first | rfl | exact fb_nar) ?_
          rw [← hR] at hR1
          refine ⟨M, _, rfl, ⟨tri, (gm_un (by decide)).trans h22c, gm_us⟩, fun k h1 h2 => (gm_un h2).trans (hrr k h1), ?_⟩
          unfold co_mk
          rw [hsa0, hsb0]
          dsimp only
          rw [hR1]
          rfl
        · refine gx_iload C 1 dd_Co_build_102 (kk := ?_)
          refine gx_if_eq C 121 dd_Co_build_104 (fun h104 => ?_) (fun h104 => absurd rfl h104)
          refine gx_iload C 1 dd_Co_build_121 (kk := ?_)
          refine gx_zret C dd_Co_build_123 (by first | rfl | exact fb_nar) ?_
          rw [← hR] at hR1
          refine ⟨M, _, rfl, ⟨tri, (gm_un (by decide)).trans h22c, gm_us⟩, fun k h1 h2 => (gm_un h2).trans (hrr k h1), ?_⟩
          unfold co_mk
          rw [hsa0, hsb0]
          dsimp only
          rw [hR1]
          rfl
    have loop : ∀ m s c M tri, s + m = 16 → s ≤ c.1.length → co_iv M tri (some (0, x.2 + y.2)) (co_es a b c.1 s) c → co_ex (am_ar a) (am_ar b) m s c = R → gx_G K D 7 0 0 83 [(6, .int (nI s)), (5, .int (nI 1)), (0, .ref (ad 22)), (1, .ref (ad (2 + 4 * ia))), (2, .ref (ad (2 + 4 * ib))), (3, .ref (ad (2 + 4 * im)))] [] (gx_w ad (gm_h dA ad (va_up mm im M) (va_up r3 23 (.inl (dA 0, 16, .inl tri))))) (gx_Z K D dA 0 0 (fun v w => ∃ M r2, w = gx_w ad (gm_h dA ad (va_up mm im M) r2) ∧ (∃ tri, r2 22 = .inr (2, [.ref (ad (2 + 4 * ia)), .ref (ad (2 + 4 * ib)), .ref (ad (2 + 4 * im)), .ref (ad 23)]) ∧ r2 23 = .inl (dA 0, 16, .inl tri)) ∧ (∀ k, k ≠ 22 → k ≠ 23 → r2 k = r k) ∧ co_Bq v M (co_mk a b))) := by
      intro m
      induction m with
      | zero =>
        intro s c M tri hm hsl0 hI hR
        refine gx_iload C 0 dd_Co_build_83 (kk := ?_)
        refine gx_bipush (v := nI 16) C dd_Co_build_85 (kk := ?_)
        refine gx_icmp_ge C 121 dd_Co_build_87 (fun h87 => ?_) (fun h87 => absurd (nI_le (a := 16) (b := s) (by omega) (by omega)) h87)
        refine gx_iload C 1 dd_Co_build_121 (kk := ?_)
        refine gx_zret C dd_Co_build_123 (by first | rfl | exact fb_nar) ?_
        have hR0 := hR
        rw [show co_ex (am_ar a) (am_ar b) 0 s c = some c from rfl] at hR0
        rw [← hR0] at hR1
        refine ⟨M, _, rfl, ⟨tri, (gm_un (by decide)).trans h22c, gm_us⟩, fun k h1 h2 => (gm_un h2).trans (hrr k h1), ?_⟩
        unfold co_mk
        rw [hsa0, hsb0]
        dsimp only
        rw [hR1]
        have hc : s = c.1.length := by have : c.1.length ≤ 16 := hI.2.2.2.2.1; omega
        subst hc
        exact ⟨rfl, hI.1, hI.2.2.2.2, hI.2.2.2.1⟩
      | succ m ih =>
        intro s c M tri hm hsl0 hI hR
        refine gx_iload C 0 dd_Co_build_83 (kk := ?_)
        refine gx_bipush (v := nI 16) C dd_Co_build_85 (kk := ?_)
        refine gx_icmp_ge C 121 dd_Co_build_87 (fun h87 => absurd h87 (nI_ge (by omega) (by omega))) (fun h87 => ?_)
        refine gx_iload C 0 dd_Co_build_90 (kk := ?_)
        refine gx_aload_n C 2 dd_Co_build_92 (kk := ?_)
        refine gx_get C fd_Co_22 (gm_r ((gm_un (by decide)).trans h22c)) dd_Co_build_93 (kk := ?_)
        refine gm_get C fd_Co_51 him dd_Co_build_96 (kk := ?_)
        refine gx_topi (nI c.1.length) (by rw [gm_us]; exact hI.1.1) ?_
        refine gx_icmp_ge C 121 dd_Co_build_99 (fun h99 => ?_) (fun h99 => ?_)
        · refine gx_iload C 1 dd_Co_build_121 (kk := ?_)
          refine gx_zret C dd_Co_build_123 (by first | rfl | exact fb_nar) ?_
          rw [nI_leI (by have : c.1.length ≤ 16 := hI.2.2.2.2.1; omega) (by omega)] at h99
          have hno : c.1[s]? = none := List.getElem?_eq_none (by omega)
          rw [show co_ex (am_ar a) (am_ar b) (m + 1) s c = some c by unfold co_ex; rw [hno]] at hR
          rw [← hR] at hR1
          refine ⟨M, _, rfl, ⟨tri, (gm_un (by decide)).trans h22c, gm_us⟩, fun k h1 h2 => (gm_un h2).trans (hrr k h1), ?_⟩
          unfold co_mk
          rw [hsa0, hsb0]
          dsimp only
          rw [hR1]
          have hc : s = c.1.length := by omega
          subst hc
          exact ⟨rfl, hI.1, hI.2.2.2.2, hI.2.2.2.1⟩
        · refine gx_iload C 1 dd_Co_build_102 (kk := ?_)
          refine gx_if_eq C 121 dd_Co_build_104 (fun h104 => absurd h104 (by decide)) (fun h104 => ?_)
          refine gx_aload_n C 2 dd_Co_build_107 (kk := ?_)
          have hsl : s < c.1.length := by
            rw [nI_leI (by have : c.1.length ≤ 16 := hI.2.2.2.2.1; omega) (by omega)] at h99
            omega
          obtain ⟨t, ht⟩ : ∃ t, c.1[s]? = some t := ⟨_, List.getElem?_eq_getElem hsl⟩
          refine gx_iload C 0 dd_Co_build_108 (kk := ?_)
          refine gx_callV C (ct_Co_leave (gx_l K) D dA ad (va_up mm im M) (va_up r3 23 (.inl (dA 0, 16, .inl tri))) (s := s) (t := t) him ((gm_un (by decide)).trans h22c) gm_us (by rw [gm_us]; exact hI) hia hna (by rw [gm_un hna]; exact hMa) hba hsa hib hnb (by rw [gm_un hnb]; exact hMb) hbb hsb ht) me_Co_leave ml_Co_54 mn_Co_leave _ (gx_w_at (by decide) (gm_r ((gm_un (by decide)).trans h22c))) rfl dd_Co_build_110 (kk := fun v w hq => ?_)
          obtain ⟨M, tri, rfl, hq⟩ := hq
          rw [gm_uu, gm_uu]
          rcases hbr : co_run s (co_items (am_ar a) (am_ar b) t) c with _ | c2
          · rw [hbr] at hq
            have hq : v = some (.int (nI 0)) := hq
            subst hq
            rw [show co_ex (am_ar a) (am_ar b) (m + 1) s c = (match co_run s (co_items (am_ar a) (am_ar b) t) c with | none => none | some c2 => co_ex (am_ar a) (am_ar b) m (s + 1) c2) by
              show (match c.1[s]? with | none => some c | some t => (match co_run s (co_items (am_ar a) (am_ar b) t) c with | none => none | some c2 => co_ex (am_ar a) (am_ar b) m (s + 1) c2)) = _
              rw [ht], hbr] at hR
            refine gx_istore C _ dd_Co_build_113 (kk := ?_)
            refine gx_iinc C 1 (nI (s + 1)) _ dd_Co_build_115 (nI_1 s) (kk := ?_)
            refine gx_goto C 83 dd_Co_build_118 (kk := ?_)
            exact fail (s + 1) M tri (by omega) hR
          · rw [hbr] at hq
            obtain ⟨hv, hI2⟩ := hq
            subst hv
            rw [show co_ex (am_ar a) (am_ar b) (m + 1) s c = (match co_run s (co_items (am_ar a) (am_ar b) t) c with | none => none | some c2 => co_ex (am_ar a) (am_ar b) m (s + 1) c2) by
              show (match c.1[s]? with | none => some c | some t => (match co_run s (co_items (am_ar a) (am_ar b) t) c with | none => none | some c2 => co_ex (am_ar a) (am_ar b) m (s + 1) c2)) = _
              rw [ht], hbr] at hR
            obtain ⟨X, hX⟩ := co_run_pre hbr
            refine gx_istore C _ dd_Co_build_113 (kk := ?_)
            refine gx_iinc C 1 (nI (s + 1)) _ dd_Co_build_115 (nI_1 s) (kk := ?_)
            refine gx_goto C 83 dd_Co_build_118 (kk := ?_)
            exact ih (s + 1) c2 M tri (by omega) (by rw [hX]; simp; omega) (by rw [hX, ← co_es_s ht]; exact hI2) hR
    refine gx_aload_n C 1 dd_Co_build_23 (kk := ?_)
    refine gm_get C fd_Co_31 hia dd_Co_build_24 (kk := ?_)
    refine gx_topi (nI x.1) (by rw [gm_un hna]; exact hqa.1) ?_
    refine gx_iconst (v := -1) C dd_Co_build_27 (kk := ?_)
    refine gx_icmp_eq C 39 dd_Co_build_28 (fun h28 => absurd h28 (nI_m1 (by omega))) (fun h28 => ?_)
    refine gx_aload_n C 2 dd_Co_build_31 (kk := ?_)
    refine gm_get C fd_Co_31 hib dd_Co_build_32 (kk := ?_)
    refine gx_topi (nI y.1) (by rw [gm_un hnb]; exact hqb.1) ?_
    refine gx_iconst (v := -1) C dd_Co_build_35 (kk := ?_)
    refine gx_icmp_ne C 41 dd_Co_build_36 (fun h36 => ?_) (fun h36 => absurd h36 (nI_m1 (by omega)))
    refine gx_aload_n C 0 dd_Co_build_41 (kk := ?_)
    refine gx_aload_n C 1 dd_Co_build_42 (kk := ?_)
    refine gm_get C fd_Co_31 hia dd_Co_build_43 (kk := ?_)
    refine gx_topi (nI x.1) (by rw [gm_un hna]; exact hqa.1) ?_
    refine gx_aload_n C 2 dd_Co_build_46 (kk := ?_)
    refine gm_get C fd_Co_31 hib dd_Co_build_47 (kk := ?_)
    refine gx_topi (nI y.1) (by rw [gm_un hnb]; exact hqb.1) ?_
    refine gx_iconst (v := nI 0) C dd_Co_build_50 (kk := ?_)
    refine gx_callS C (ct_Co_tripleOf (gx_l K) D dA _ x.1 y.1 0 (by omega) (by omega) (by omega)) me_Co_tripleOf ml_Co_35 ms_Co_tripleOf dd_Co_build_51 (kk := fun v w hq => ?_)
    obtain ⟨rfl, rfl⟩ := hq
    refine gx_callV C (ct_Co_find (gx_l K) D dA ad (va_up mm im M0) r3 (t := (x.1, y.1, 0)) (c := ([], [])) him h22c h23c (by rw [gm_us]; exact hI0) ⟨by show x.1 < 16; omega, by show y.1 < 16; omega, by show 0 < 3; decide⟩) me_Co_find ml_Co_39 mn_Co_find _ (gx_w_at (by decide) (gm_r h22c)) rfl dd_Co_build_54 (kk := fun v w hq => ?_)
    obtain ⟨M1, tri1, rfl, hq⟩ := hq
    obtain ⟨hv, hq3, -⟩ : v = some (.int (nI 0)) ∧ co_iv M1 tri1 none (fun _ => none) ([(x.1, y.1, 0)], []) ∧ True := ⟨hq.1, hq.2.1, trivial⟩
    subst hv
    refine gx_istore C _ dd_Co_build_57 (kk := ?_)
    refine gx_aload_n C 1 dd_Co_build_59 (kk := ?_)
    refine gx_get C fd_Co_22 (gm_r ((gm_un (by decide)).trans h22c)) dd_Co_build_60 (kk := ?_)
    refine gx_iload C 0 dd_Co_build_63 (kk := ?_)
    refine gx_aload_n C 2 dd_Co_build_65 (kk := ?_)
    refine gm_get C fd_Co_43 hia dd_Co_build_66 (kk := ?_)
    refine gx_topl (lN x.2) (by rw [gm_un hna, gm_un hna]; exact hqa.2) ?_
    refine gx_aload_n C 3 dd_Co_build_69 (kk := ?_)
    refine gm_get C fd_Co_43 hib dd_Co_build_70 (kk := ?_)
    refine gx_topl (lN y.2) (by rw [gm_un hnb, gm_un hnb]; exact hqb.2) ?_
    refine gx_ladd C dd_Co_build_73 (kk := ?_)
    refine gx_topl _ (lN_add _ _) ?_
    refine gx_callV C (ct_Ma_setStart (gx_l K) D dA ad _ _ (i := im) him (nI 0) (lN (x.2 + y.2))) me_Ma_setStart ml_Co_47 mn_Ma_setStart _ (gx_w_at (by omega) (gm_at (j := 0) him (by decide))) rfl dd_Co_build_74 (kk := fun v w hq2 => ?_)
    obtain ⟨rfl, rfl⟩ := hq2
    rw [gm_us, gm_uu, gm_uu]
    refine gx_iconst (v := nI 1) C dd_Co_build_77 (kk := ?_)
    refine gx_istore C _ dd_Co_build_78 (kk := ?_)
    refine gx_iconst (v := nI 0) C dd_Co_build_80 (kk := ?_)
    refine gx_istore C _ dd_Co_build_81 (kk := ?_)
    refine gx_loc [0, 1, 3, 4, 5, 6] ?_
    refine loop 16 0 ([(x.1, y.1, 0)], []) _ tri1 (by omega) (Nat.zero_le _) ?_ hR1
    rw [co_es_0]
    exact ⟨⟨hq3.1.1, ⟨rfl, rfl⟩, hq3.1.2.2⟩, hq3.2.1, hq3.2.2.1, hq3.2.2.2.1, hq3.2.2.2.2.1, hq3.2.2.2.2.2.1, hq3.2.2.2.2.2.2.1, hq3.2.2.2.2.2.2.2.1, fun z hz => (Option.some.inj hz) ▸ ⟨by show 0 < 16; decide, by show x.2 + y.2 < 4000000000; omega⟩⟩
