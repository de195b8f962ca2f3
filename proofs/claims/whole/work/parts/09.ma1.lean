theorem dd_Ma_clear_0 : decode cc_Ma_clear 0 = .ok (.aload_n 0, 1) := by decide +kernel
theorem dd_Ma_clear_1 : decode cc_Ma_clear 1 = .ok (.iload_n 1, 1) := by decide +kernel
theorem dd_Ma_clear_2 : decode cc_Ma_clear 2 = .ok (.putfield 34, 3) := by decide +kernel
theorem dd_Ma_clear_5 : decode cc_Ma_clear 5 = .ok (.aload_n 0, 1) := by decide +kernel
theorem dd_Ma_clear_6 : decode cc_Ma_clear 6 = .ok (.iconst (-1), 1) := by decide +kernel
theorem dd_Ma_clear_7 : decode cc_Ma_clear 7 = .ok (.putfield 9, 3) := by decide +kernel
theorem dd_Ma_clear_10 : decode cc_Ma_clear 10 = .ok (.aload_n 0, 1) := by decide +kernel
theorem dd_Ma_clear_11 : decode cc_Ma_clear 11 = .ok (.lconst 0, 1) := by decide +kernel
theorem dd_Ma_clear_12 : decode cc_Ma_clear 12 = .ok (.putfield 37, 3) := by decide +kernel
theorem dd_Ma_clear_15 : decode cc_Ma_clear 15 = .ok (.aload_n 0, 1) := by decide +kernel
theorem dd_Ma_clear_16 : decode cc_Ma_clear 16 = .ok (.getfield 15, 3) := by decide +kernel
theorem dd_Ma_clear_19 : decode cc_Ma_clear 19 = .ok (.ldc2_w 19, 3) := by decide +kernel
theorem dd_Ma_clear_22 : decode cc_Ma_clear 22 = .ok (.invokestatic 21, 3) := by decide +kernel
theorem dd_Ma_clear_25 : decode cc_Ma_clear 25 = .ok (.aload_n 0, 1) := by decide +kernel
theorem dd_Ma_clear_26 : decode cc_Ma_clear 26 = .ok (.iconst 0, 1) := by decide +kernel
theorem dd_Ma_clear_27 : decode cc_Ma_clear 27 = .ok (.putfield 41, 3) := by decide +kernel
theorem dd_Ma_clear_30 : decode cc_Ma_clear 30 = .ok (.return_, 1) := by decide +kernel
theorem dd_Ma_setStart_0 : decode cc_Ma_setStart 0 = .ok (.aload_n 0, 1) := by decide +kernel
theorem dd_Ma_setStart_1 : decode cc_Ma_setStart 1 = .ok (.iload_n 1, 1) := by decide +kernel
theorem dd_Ma_setStart_2 : decode cc_Ma_setStart 2 = .ok (.putfield 9, 3) := by decide +kernel
theorem dd_Ma_setStart_5 : decode cc_Ma_setStart 5 = .ok (.aload_n 0, 1) := by decide +kernel
theorem dd_Ma_setStart_6 : decode cc_Ma_setStart 6 = .ok (.lload_n 2, 1) := by decide +kernel
theorem dd_Ma_setStart_7 : decode cc_Ma_setStart 7 = .ok (.putfield 37, 3) := by decide +kernel
theorem dd_Ma_setStart_10 : decode cc_Ma_setStart 10 = .ok (.return_, 1) := by decide +kernel
theorem dd_Ma_setEndUnlessFar_0 : decode cc_Ma_setEndUnlessFar 0 = .ok (.aload_n 0, 1) := by decide +kernel
theorem dd_Ma_setEndUnlessFar_1 : decode cc_Ma_setEndUnlessFar 1 = .ok (.getfield 15, 3) := by decide +kernel
theorem dd_Ma_setEndUnlessFar_4 : decode cc_Ma_setEndUnlessFar 4 = .ok (.iload_n 1, 1) := by decide +kernel
theorem dd_Ma_setEndUnlessFar_5 : decode cc_Ma_setEndUnlessFar 5 = .ok (.lload_n 2, 1) := by decide +kernel
theorem dd_Ma_setEndUnlessFar_6 : decode cc_Ma_setEndUnlessFar 6 = .ok (.ldc2_w 44, 3) := by decide +kernel
theorem dd_Ma_setEndUnlessFar_9 : decode cc_Ma_setEndUnlessFar 9 = .ok (.lcmp, 1) := by decide +kernel
theorem dd_Ma_setEndUnlessFar_10 : decode cc_Ma_setEndUnlessFar 10 = .ok (.ifCond .ge 7, 3) := by decide +kernel
theorem dd_Ma_setEndUnlessFar_13 : decode cc_Ma_setEndUnlessFar 13 = .ok (.lload_n 2, 1) := by decide +kernel
theorem dd_Ma_setEndUnlessFar_14 : decode cc_Ma_setEndUnlessFar 14 = .ok (.goto 6, 3) := by decide +kernel
theorem dd_Ma_setEndUnlessFar_17 : decode cc_Ma_setEndUnlessFar 17 = .ok (.ldc2_w 19, 3) := by decide +kernel
theorem dd_Ma_setEndUnlessFar_20 : decode cc_Ma_setEndUnlessFar 20 = .ok (.lastore, 1) := by decide +kernel
theorem dd_Ma_setEndUnlessFar_21 : decode cc_Ma_setEndUnlessFar 21 = .ok (.return_, 1) := by decide +kernel
theorem dd_Ma_endOrFar_0 : decode cc_Ma_endOrFar 0 = .ok (.aload_n 0, 1) := by decide +kernel
theorem dd_Ma_endOrFar_1 : decode cc_Ma_endOrFar 1 = .ok (.getfield 15, 3) := by decide +kernel
theorem dd_Ma_endOrFar_4 : decode cc_Ma_endOrFar 4 = .ok (.iload_n 1, 1) := by decide +kernel
theorem dd_Ma_endOrFar_5 : decode cc_Ma_endOrFar 5 = .ok (.laload, 1) := by decide +kernel
theorem dd_Ma_endOrFar_6 : decode cc_Ma_endOrFar 6 = .ok (.ldc2_w 19, 3) := by decide +kernel
theorem dd_Ma_endOrFar_9 : decode cc_Ma_endOrFar 9 = .ok (.lcmp, 1) := by decide +kernel
theorem dd_Ma_endOrFar_10 : decode cc_Ma_endOrFar 10 = .ok (.ifCond .ne 9, 3) := by decide +kernel
theorem dd_Ma_endOrFar_13 : decode cc_Ma_endOrFar 13 = .ok (.ldc2_w 44, 3) := by decide +kernel
theorem dd_Ma_endOrFar_16 : decode cc_Ma_endOrFar 16 = .ok (.goto 9, 3) := by decide +kernel
theorem dd_Ma_endOrFar_19 : decode cc_Ma_endOrFar 19 = .ok (.aload_n 0, 1) := by decide +kernel
theorem dd_Ma_endOrFar_20 : decode cc_Ma_endOrFar 20 = .ok (.getfield 15, 3) := by decide +kernel
theorem dd_Ma_endOrFar_23 : decode cc_Ma_endOrFar 23 = .ok (.iload_n 1, 1) := by decide +kernel
theorem dd_Ma_endOrFar_24 : decode cc_Ma_endOrFar 24 = .ok (.laload, 1) := by decide +kernel
theorem dd_Ma_endOrFar_25 : decode cc_Ma_endOrFar 25 = .ok (.lreturn, 1) := by decide +kernel
theorem dd_Ma_countEnds_0 : decode cc_Ma_countEnds 0 = .ok (.iconst 0, 1) := by decide +kernel
theorem dd_Ma_countEnds_1 : decode cc_Ma_countEnds 1 = .ok (.istore_n 1, 1) := by decide +kernel
theorem dd_Ma_countEnds_2 : decode cc_Ma_countEnds 2 = .ok (.iconst 0, 1) := by decide +kernel
theorem dd_Ma_countEnds_3 : decode cc_Ma_countEnds 3 = .ok (.istore_n 2, 1) := by decide +kernel
theorem dd_Ma_countEnds_4 : decode cc_Ma_countEnds 4 = .ok (.iload_n 2, 1) := by decide +kernel
theorem dd_Ma_countEnds_5 : decode cc_Ma_countEnds 5 = .ok (.aload_n 0, 1) := by decide +kernel
theorem dd_Ma_countEnds_6 : decode cc_Ma_countEnds 6 = .ok (.getfield 34, 3) := by decide +kernel
theorem dd_Ma_countEnds_9 : decode cc_Ma_countEnds 9 = .ok (.if_icmp .ge 25, 3) := by decide +kernel
theorem dd_Ma_countEnds_12 : decode cc_Ma_countEnds 12 = .ok (.aload_n 0, 1) := by decide +kernel
theorem dd_Ma_countEnds_13 : decode cc_Ma_countEnds 13 = .ok (.getfield 15, 3) := by decide +kernel
theorem dd_Ma_countEnds_16 : decode cc_Ma_countEnds 16 = .ok (.iload_n 2, 1) := by decide +kernel
theorem dd_Ma_countEnds_17 : decode cc_Ma_countEnds 17 = .ok (.laload, 1) := by decide +kernel
theorem dd_Ma_countEnds_18 : decode cc_Ma_countEnds 18 = .ok (.ldc2_w 19, 3) := by decide +kernel
theorem dd_Ma_countEnds_21 : decode cc_Ma_countEnds 21 = .ok (.lcmp, 1) := by decide +kernel
theorem dd_Ma_countEnds_22 : decode cc_Ma_countEnds 22 = .ok (.ifCond .eq 6, 3) := by decide +kernel
theorem dd_Ma_countEnds_25 : decode cc_Ma_countEnds 25 = .ok (.iinc 1 1, 3) := by decide +kernel
theorem dd_Ma_countEnds_28 : decode cc_Ma_countEnds 28 = .ok (.iinc 2 1, 3) := by decide +kernel
theorem dd_Ma_countEnds_31 : decode cc_Ma_countEnds 31 = .ok (.goto (-27), 3) := by decide +kernel
theorem dd_Ma_countEnds_34 : decode cc_Ma_countEnds 34 = .ok (.iload_n 1, 1) := by decide +kernel
theorem dd_Ma_countEnds_35 : decode cc_Ma_countEnds 35 = .ok (.ireturn, 1) := by decide +kernel
theorem dd_Ma_placeOf_0 : decode cc_Ma_placeOf 0 = .ok (.iconst 0, 1) := by decide +kernel
theorem dd_Ma_placeOf_1 : decode cc_Ma_placeOf 1 = .ok (.istore_n 2, 1) := by decide +kernel
theorem dd_Ma_placeOf_2 : decode cc_Ma_placeOf 2 = .ok (.bipush 64, 2) := by decide +kernel
theorem dd_Ma_placeOf_4 : decode cc_Ma_placeOf 4 = .ok (.istore_n 3, 1) := by decide +kernel
theorem dd_Ma_placeOf_5 : decode cc_Ma_placeOf 5 = .ok (.iload_n 3, 1) := by decide +kernel
theorem dd_Ma_placeOf_6 : decode cc_Ma_placeOf 6 = .ok (.ifCond .le 38, 3) := by decide +kernel
theorem dd_Ma_placeOf_9 : decode cc_Ma_placeOf 9 = .ok (.iload_n 2, 1) := by decide +kernel
theorem dd_Ma_placeOf_10 : decode cc_Ma_placeOf 10 = .ok (.iload_n 3, 1) := by decide +kernel
theorem dd_Ma_placeOf_11 : decode cc_Ma_placeOf 11 = .ok (.iadd, 1) := by decide +kernel
theorem dd_Ma_placeOf_12 : decode cc_Ma_placeOf 12 = .ok (.aload_n 0, 1) := by decide +kernel
theorem dd_Ma_placeOf_13 : decode cc_Ma_placeOf 13 = .ok (.getfield 41, 3) := by decide +kernel
theorem dd_Ma_placeOf_16 : decode cc_Ma_placeOf 16 = .ok (.if_icmp .gt 21, 3) := by decide +kernel
theorem dd_Ma_placeOf_19 : decode cc_Ma_placeOf 19 = .ok (.aload_n 0, 1) := by decide +kernel
theorem dd_Ma_placeOf_20 : decode cc_Ma_placeOf 20 = .ok (.getfield 27, 3) := by decide +kernel
theorem dd_Ma_placeOf_23 : decode cc_Ma_placeOf 23 = .ok (.iload_n 2, 1) := by decide +kernel
theorem dd_Ma_placeOf_24 : decode cc_Ma_placeOf 24 = .ok (.iload_n 3, 1) := by decide +kernel
theorem dd_Ma_placeOf_25 : decode cc_Ma_placeOf 25 = .ok (.iadd, 1) := by decide +kernel
theorem dd_Ma_placeOf_26 : decode cc_Ma_placeOf 26 = .ok (.iconst 1, 1) := by decide +kernel
theorem dd_Ma_placeOf_27 : decode cc_Ma_placeOf 27 = .ok (.isub, 1) := by decide +kernel
theorem dd_Ma_placeOf_28 : decode cc_Ma_placeOf 28 = .ok (.iaload, 1) := by decide +kernel
theorem dd_Ma_placeOf_29 : decode cc_Ma_placeOf 29 = .ok (.iload_n 1, 1) := by decide +kernel
theorem dd_Ma_placeOf_30 : decode cc_Ma_placeOf 30 = .ok (.if_icmp .ge 7, 3) := by decide +kernel
theorem dd_Ma_placeOf_33 : decode cc_Ma_placeOf 33 = .ok (.iload_n 2, 1) := by decide +kernel
theorem dd_Ma_placeOf_34 : decode cc_Ma_placeOf 34 = .ok (.iload_n 3, 1) := by decide +kernel
theorem dd_Ma_placeOf_35 : decode cc_Ma_placeOf 35 = .ok (.iadd, 1) := by decide +kernel
theorem dd_Ma_placeOf_36 : decode cc_Ma_placeOf 36 = .ok (.istore_n 2, 1) := by decide +kernel
theorem dd_Ma_placeOf_37 : decode cc_Ma_placeOf 37 = .ok (.iload_n 3, 1) := by decide +kernel
theorem dd_Ma_placeOf_38 : decode cc_Ma_placeOf 38 = .ok (.iconst 1, 1) := by decide +kernel
theorem dd_Ma_placeOf_39 : decode cc_Ma_placeOf 39 = .ok (.ishr, 1) := by decide +kernel
theorem dd_Ma_placeOf_40 : decode cc_Ma_placeOf 40 = .ok (.istore_n 3, 1) := by decide +kernel
theorem dd_Ma_placeOf_41 : decode cc_Ma_placeOf 41 = .ok (.goto (-36), 3) := by decide +kernel
theorem dd_Ma_placeOf_44 : decode cc_Ma_placeOf 44 = .ok (.iload_n 2, 1) := by decide +kernel
theorem dd_Ma_placeOf_45 : decode cc_Ma_placeOf 45 = .ok (.ireturn, 1) := by decide +kernel
set_option maxRecDepth 100000 in
set_option maxHeartbeats 4000000 in
theorem ct_fillE (l : Launch) (D : va_G) (dA : Nat → ClassId) (ad : Nat → Nat) (mm : Nat → gm_V) (r : Nat → va_E) {i : Nat} (hi : i < 5) (x : Int64) : gx_Ct l D dA yy_JA_fill cc_JA_fill 5 none 0 0 0 [.ref (ad (2 + 4 * i + 1)), .long x] (gx_w ad (gm_h dA ad mm r)) (fun v w => v = none ∧ w = gx_w ad (gm_h dA ad (va_up mm i (gm_n (mm i), gm_q (mm i), gm_s (mm i), (fun j => if j < 16 then x else gm_e (mm i) j), gm_c (mm i), gm_k (mm i), gm_g (mm i))) r)) := by
  have h := ct_JA_fill l D dA ad (gm_h dA ad mm r) (2 + 4 * i + 1) 16 (gm_e (mm i)) x (by omega) (by decide) (gm_at (j := 1) hi (by decide))
  rw [← gm_up 1 (gm_n (mm i), gm_q (mm i), gm_s (mm i), (fun j => if j < 16 then x else gm_e (mm i) j), gm_c (mm i), gm_k (mm i), gm_g (mm i)) hi (by decide) (fun b hb hn => by rcases (show b = 0 ∨ b = 2 ∨ b = 3 by omega) with rfl | rfl | rfl <;> rfl)]
  exact h
set_option maxRecDepth 100000 in
set_option maxHeartbeats 4000000 in
theorem ct_Ma_clear (l : Launch) (D : va_G) (dA : Nat → ClassId) (ad : Nat → Nat) (mm : Nat → gm_V) (r : Nat → va_E) {i : Nat} (hi : i < 5) (c : Nat) : gx_Ct l D dA yy_Ma_clear cc_Ma_clear 2 none 1 0 0 [.ref (ad (2 + 4 * i)), .int (nI c)] (gx_w ad (gm_h dA ad mm r)) (fun v w => v = none ∧ ∃ M, w = gx_w ad (gm_h dA ad (va_up mm i M) r) ∧ gm_is M (c, none, (fun _ => none), [])) := by
  refine gx_of (by decide) (Nat.le_of_ble_eq_true rfl) (fun K C _ _ => ?_)
  refine gx_aload_n C 0 dd_Ma_clear_0 (kk := ?_)
  refine gx_iload_n C 1 dd_Ma_clear_1 (kk := ?_)
  refine gm_put_n C fw_Ma_34 (by assumption) dd_Ma_clear_2 (kk := ?_)
  refine gx_aload_n C 0 dd_Ma_clear_5 (kk := ?_)
  refine gx_iconst (v := -1) C dd_Ma_clear_6 (kk := ?_)
  refine gm_put_q C fw_Ma_9 (by assumption) dd_Ma_clear_7 (kk := ?_)
  refine gx_aload_n C 0 dd_Ma_clear_10 (kk := ?_)
  refine gx_lconst (v := lN 0) C dd_Ma_clear_11 (kk := ?_)
  refine gm_put_s C fw_Ma_37 (by assumption) dd_Ma_clear_12 (kk := ?_)
  refine gx_aload_n C 0 dd_Ma_clear_15 (kk := ?_)
  refine gm_get C fd_Ma_15 (by assumption) dd_Ma_clear_16 (kk := ?_)
  refine gx_ldc2 C dd_Ma_clear_19 kc_Ma_19 (kk := ?_)
  refine gx_callS C (ct_fillE (gx_l K) D dA ad _ r hi _) me_JA_fill ml_Ma_21 ms_JA_fill dd_Ma_clear_22 (kk := fun v w hq => ?_)
  obtain ⟨rfl, rfl⟩ := hq
  refine gx_aload_n C 0 dd_Ma_clear_25 (kk := ?_)
  refine gx_iconst (v := nI 0) C dd_Ma_clear_26 (kk := ?_)
  refine gm_put_c C fw_Ma_41 (by assumption) dd_Ma_clear_27 (kk := ?_)
  refine gx_vret C dd_Ma_clear_30 ?_
  refine ⟨rfl, ?_⟩
  simp only [gm_us, gm_uu]
  exact ⟨_, rfl, rfl, ⟨rfl, rfl⟩, fun q hq => if_pos hq, rfl, fun j x hx => absurd (show ([] : List (Nat × Nat))[j]? = some x from hx) (by simp)⟩
set_option maxRecDepth 100000 in
set_option maxHeartbeats 4000000 in
theorem ct_Ma_setStart (l : Launch) (D : va_G) (dA : Nat → ClassId) (ad : Nat → Nat) (mm : Nat → gm_V) (r : Nat → va_E) {i : Nat} (hi : i < 5) (q : Int32) (x : Int64) : gx_Ct l D dA yy_Ma_setStart cc_Ma_setStart 4 none 0 0 0 [.ref (ad (2 + 4 * i)), .int q, .long x] (gx_w ad (gm_h dA ad mm r)) (fun v w => v = none ∧ w = gx_w ad (gm_h dA ad (va_up mm i (gm_n (mm i), q, x, gm_e (mm i), gm_c (mm i), gm_k (mm i), gm_g (mm i))) r)) := by
  refine gx_of (by decide) (Nat.le_of_ble_eq_true rfl) (fun K C _ _ => ?_)
  refine gx_aload_n C 0 dd_Ma_setStart_0 (kk := ?_)
  refine gx_iload_n C 1 dd_Ma_setStart_1 (kk := ?_)
  refine gm_put_q C fw_Ma_9 (by assumption) dd_Ma_setStart_2 (kk := ?_)
  refine gx_aload_n C 0 dd_Ma_setStart_5 (kk := ?_)
  refine gx_lload_n C 2 dd_Ma_setStart_6 (kk := ?_)
  refine gm_put_s C fw_Ma_37 (by assumption) dd_Ma_setStart_7 (kk := ?_)
  refine gx_vret C dd_Ma_setStart_10 ?_
  refine ⟨rfl, ?_⟩
  simp only [gm_us, gm_uu]
set_option maxRecDepth 100000 in
set_option maxHeartbeats 4000000 in
theorem ct_Ma_setEndUnlessFar (l : Launch) (D : va_G) (dA : Nat → ClassId) (ad : Nat → Nat) (mm : Nat → gm_V) (r : Nat → va_E) {i q : Nat} (hi : i < 5) (hq : q < 16) (x : Int64) : gx_Ct l D dA yy_Ma_setEndUnlessFar cc_Ma_setEndUnlessFar 4 none 0 0 0 [.ref (ad (2 + 4 * i)), .int (nI q), .long x] (gx_w ad (gm_h dA ad mm r)) (fun v w => v = none ∧ w = gx_w ad (gm_h dA ad (va_up mm i (gm_n (mm i), gm_q (mm i), gm_s (mm i), vp_updL (gm_e (mm i)) q (if x < 1152921504606846976 then x else -1), gm_c (mm i), gm_k (mm i), gm_g (mm i))) r)) := by
  refine gx_of (by decide) (Nat.le_of_ble_eq_true rfl) (fun K C _ _ => ?_)
  refine gx_aload_n C 0 dd_Ma_setEndUnlessFar_0 (kk := ?_)
  refine gm_get C fd_Ma_15 (by assumption) dd_Ma_setEndUnlessFar_1 (kk := ?_)
  refine gx_iload_n C 1 dd_Ma_setEndUnlessFar_4 (kk := ?_)
  refine gx_lload_n C 2 dd_Ma_setEndUnlessFar_5 (kk := ?_)
  refine gx_ldc2 C dd_Ma_setEndUnlessFar_6 kc_Ma_44 (kk := ?_)
  refine gx_lcmp C dd_Ma_setEndUnlessFar_9 (kk := ?_)
  refine gx_if_ge C 17 dd_Ma_setEndUnlessFar_10 (fun h10 => ?_) (fun h10 => ?_)
  · refine gx_ldc2 C dd_Ma_setEndUnlessFar_17 kc_Ma_19 (kk := ?_)
    refine gm_sn_e C hi dd_Ma_setEndUnlessFar_20 hq (kk := ?_)
    refine gx_vret C dd_Ma_setEndUnlessFar_21 ?_
    refine ⟨rfl, ?_⟩
    rw [lc_ge] at h10
    first | rw [if_neg (Int64.not_lt.mpr h10)] | rw [if_pos (Int64.not_le.mp h10)]
  · refine gx_lload_n C 2 dd_Ma_setEndUnlessFar_13 (kk := ?_)
    refine gx_goto C 20 dd_Ma_setEndUnlessFar_14 (kk := ?_)
    refine gm_sn_e C hi dd_Ma_setEndUnlessFar_20 hq (kk := ?_)
    refine gx_vret C dd_Ma_setEndUnlessFar_21 ?_
    refine ⟨rfl, ?_⟩
    rw [lc_ge] at h10
    first | rw [if_neg (Int64.not_lt.mpr h10)] | rw [if_pos (Int64.not_le.mp h10)]
set_option maxRecDepth 100000 in
set_option maxHeartbeats 4000000 in
theorem ct_Ma_endOrFar (l : Launch) (D : va_G) (dA : Nat → ClassId) (ad : Nat → Nat) (mm : Nat → gm_V) (r : Nat → va_E) {i q : Nat} {a : am_T} (hi : i < 5) (hq : q < 16) (hM : gm_is (mm i) a) (he : ∀ q e, am_en a q = some e → e < 2 ^ 63) : gx_Ct l D dA yy_Ma_endOrFar cc_Ma_endOrFar 2 (some .long) 0 0 0 [.ref (ad (2 + 4 * i)), .int (nI q)] (gx_w ad (gm_h dA ad mm r)) (fun v w => v = some (.long (am_f (am_en a q))) ∧ w = (gx_w ad (gm_h dA ad mm r))) := by
  refine gx_of (by decide) (Nat.le_of_ble_eq_true rfl) (fun K C _ _ => ?_)
  refine gx_aload_n C 0 dd_Ma_endOrFar_0 (kk := ?_)
  refine gm_get C fd_Ma_15 (by assumption) dd_Ma_endOrFar_1 (kk := ?_)
  refine gx_iload_n C 1 dd_Ma_endOrFar_4 (kk := ?_)
  refine gm_ln_e C hi dd_Ma_endOrFar_5 hq (kk := ?_)
  refine gx_ldc2 C dd_Ma_endOrFar_6 kc_Ma_19 (kk := ?_)
  refine gx_lcmp C dd_Ma_endOrFar_9 (kk := ?_)
  refine gx_if_ne C 19 dd_Ma_endOrFar_10 (fun h10 => ?_) (fun h10 => ?_)
  · refine gx_aload_n C 0 dd_Ma_endOrFar_19 (kk := ?_)
    refine gm_get C fd_Ma_15 (by assumption) dd_Ma_endOrFar_20 (kk := ?_)
    refine gx_iload_n C 1 dd_Ma_endOrFar_23 (kk := ?_)
    refine gm_ln_e C hi dd_Ma_endOrFar_24 hq (kk := ?_)
    refine gx_lret C dd_Ma_endOrFar_25 ?_
    refine ⟨?_, rfl⟩
    rw [lc_eq, hM.2.2.1 q hq] at h10
    try rw [hM.2.2.1 q hq]
    cases ho : am_en a q with
    | none => first | rfl | (rw [ho] at h10; exact absurd rfl h10)
    | some e => first | rfl | (rw [ho] at h10; exact absurd h10 (lN_m1 (he q e ho)))
  · refine gx_ldc2 C dd_Ma_endOrFar_13 kc_Ma_44 (kk := ?_)
    refine gx_goto C 25 dd_Ma_endOrFar_16 (kk := ?_)
    refine gx_lret C dd_Ma_endOrFar_25 ?_
    refine ⟨?_, rfl⟩
    rw [lc_eq, hM.2.2.1 q hq] at h10
    try rw [hM.2.2.1 q hq]
    cases ho : am_en a q with
    | none => first | rfl | (rw [ho] at h10; exact absurd rfl h10)
    | some e => first | rfl | (rw [ho] at h10; exact absurd h10 (lN_m1 (he q e ho)))
def am_ce (f : Nat → Option Nat) : Nat → Nat
  | 0 => 0
  | n + 1 => am_ce f n + (if f n = none then 0 else 1)
theorem am_ce_le (f : Nat → Option Nat) : ∀ n, am_ce f n ≤ n
  | 0 => Nat.le_refl _
  | n + 1 => by
    have := am_ce_le f n
    unfold am_ce
    split <;> omega
set_option maxRecDepth 100000 in
set_option maxHeartbeats 4000000 in
theorem ct_Ma_countEnds (l : Launch) (D : va_G) (dA : Nat → ClassId) (ad : Nat → Nat) (mm : Nat → gm_V) (r : Nat → va_E) {i : Nat} {a : am_T} (hi : i < 5) (hM : gm_is (mm i) a) (hn : am_n a ≤ 16) (he : ∀ q e, am_en a q = some e → e < 2 ^ 63) : gx_Ct l D dA yy_Ma_countEnds cc_Ma_countEnds 3 (some .int) 0 0 0 [.ref (ad (2 + 4 * i))] (gx_w ad (gm_h dA ad mm r)) (fun v w => v = some (.int (nI (am_ce (am_en a) (am_n a)))) ∧ w = (gx_w ad (gm_h dA ad mm r))) := by
  refine gx_of (by decide) (Nat.le_of_ble_eq_true rfl) (fun K C _ _ => ?_)
  have loop : ∀ m j, j + m = am_n a → gx_G K D 3 0 0 4 [(2, .int (nI j)), (1, .int (nI (am_ce (am_en a) j))), (0, .ref (ad (2 + 4 * i)))] [] (gx_w ad (gm_h dA ad mm r)) (gx_Z K D dA 0 0 (fun v w => v = some (.int (nI (am_ce (am_en a) (am_n a)))) ∧ w = (gx_w ad (gm_h dA ad mm r)))) := by
    intro m
    induction m with
    | zero =>
      intro j hj
      refine gx_iload_n C 0 dd_Ma_countEnds_4 (kk := ?_)
      refine gx_aload_n C 2 dd_Ma_countEnds_5 (kk := ?_)
      refine gm_get C fd_Ma_34 hi dd_Ma_countEnds_6 (kk := ?_)
      refine gx_topi _ hM.1 ?_
      refine gx_icmp_ge C 34 dd_Ma_countEnds_9 (fun h9 => ?_) (fun h9 => absurd (nI_le (a := am_n a) (b := j) (by omega) (by omega)) h9)
      refine gx_iload_n C 1 dd_Ma_countEnds_34 (kk := ?_)
      refine gx_iret C dd_Ma_countEnds_35 ?_
      rw [show j = am_n a by omega]
      exact ⟨rfl, rfl⟩
    | succ m ih =>
      intro j hj
      refine gx_iload_n C 0 dd_Ma_countEnds_4 (kk := ?_)
      refine gx_aload_n C 2 dd_Ma_countEnds_5 (kk := ?_)
      refine gm_get C fd_Ma_34 hi dd_Ma_countEnds_6 (kk := ?_)
      refine gx_topi _ hM.1 ?_
      refine gx_icmp_ge C 34 dd_Ma_countEnds_9 (fun h9 => absurd h9 (nI_ge (by omega) (by omega))) (fun h9 => ?_)
      refine gx_aload_n C 2 dd_Ma_countEnds_12 (kk := ?_)
      refine gm_get C fd_Ma_15 (by assumption) dd_Ma_countEnds_13 (kk := ?_)
      refine gx_iload_n C 0 dd_Ma_countEnds_16 (kk := ?_)
      refine gm_ln_e C hi dd_Ma_countEnds_17 (by omega) (kk := ?_)
      refine gx_ldc2 C dd_Ma_countEnds_18 kc_Ma_19 (kk := ?_)
      refine gx_lcmp C dd_Ma_countEnds_21 (kk := ?_)
      refine gx_if_eq C 28 dd_Ma_countEnds_22 (fun h22 => ?_) (fun h22 => ?_)
      · refine gx_iinc C 0 (nI (j + 1)) _ dd_Ma_countEnds_28 (nI_1 j) (kk := ?_)
        refine gx_goto C 4 dd_Ma_countEnds_31 (kk := ?_)
        rw [show am_ce (am_en a) j = am_ce (am_en a) (j + 1) by
          rw [lc_eq, hM.2.2.1 j (by omega), am_e_eq (he j)] at h22
          simp [am_ce, h22]]
        exact ih (j + 1) (by omega)
      · refine gx_iinc C 1 (nI (am_ce (am_en a) (j + 1))) _ dd_Ma_countEnds_25 ?_ (kk := ?_)
        · rw [show Int32.ofInt 1 = nI 1 by decide, nI_add]
          rw [lc_eq, hM.2.2.1 j (by omega), am_e_eq (he j)] at h22
          simp [am_ce, h22]
        refine gx_iinc C 1 (nI (j + 1)) _ dd_Ma_countEnds_28 (nI_1 j) (kk := ?_)
        refine gx_goto C 4 dd_Ma_countEnds_31 (kk := ?_)
        exact ih (j + 1) (by omega)
  refine gx_iconst (v := nI 0) C dd_Ma_countEnds_0 (kk := ?_)
  refine gx_istore_n C _ dd_Ma_countEnds_1 (kk := ?_)
  refine gx_iconst (v := nI 0) C dd_Ma_countEnds_2 (kk := ?_)
  refine gx_istore_n C _ dd_Ma_countEnds_3 (kk := ?_)
  exact loop (am_n a) 0 (by omega)
set_option maxRecDepth 100000 in
set_option maxHeartbeats 4000000 in
theorem ct_Ma_placeOf (l : Launch) (D : va_G) (dA : Nat → ClassId) (ad : Nat → Nat) (mm : Nat → gm_V) (r : Nat → va_E) {i : Nat} {a : am_T} {key : Nat} (hi : i < 5) (hM : gm_is (mm i) a) (hk : key < 2 ^ 20) (hn : (am_ar a).length ≤ 64) (hb : ∀ x ∈ am_ar a, x.1 < 16384) (hs : am_so (am_ar a)) : gx_Ct l D dA yy_Ma_placeOf cc_Ma_placeOf 4 (some .int) 0 0 0 [.ref (ad (2 + 4 * i)), .int (nI key)] (gx_w ad (gm_h dA ad mm r)) (fun v w => v = some (.int (nI (am_pl key (am_ar a)))) ∧ w = (gx_w ad (gm_h dA ad mm r))) := by
  refine gx_of (by decide) (Nat.le_of_ble_eq_true rfl) (fun K C _ _ => ?_)
  have hlen := am_pl_le key (am_ar a)
  have done : ∀ q, am_pl key (am_ar a) = q → gx_G K D 4 0 0 5 [(3, .int (nI 0)), (2, .int (nI q)), (0, .ref (ad (2 + 4 * i))), (1, .int (nI key))] [] (gx_w ad (gm_h dA ad mm r)) (gx_Z K D dA 0 0 (fun v w => v = some (.int (nI (am_pl key (am_ar a)))) ∧ w = (gx_w ad (gm_h dA ad mm r)))) := by
    intro q h1
    refine gx_iload_n C 0 dd_Ma_placeOf_5 (kk := ?_)
    refine gx_if_le C 44 dd_Ma_placeOf_6 (fun h6 => ?_) (fun h6 => absurd (by decide) h6)
    refine gx_iload_n C 1 dd_Ma_placeOf_44 (kk := ?_)
    refine gx_iret C dd_Ma_placeOf_45 ?_
    rw [← h1]
    exact ⟨rfl, rfl⟩
  have step : ∀ g g2 q, g2 = g / 2 → 0 < g → g ≤ 64 → q ≤ am_pl key (am_ar a) → am_pl key (am_ar a) < q + 2 * g → (∀ q2, q2 ≤ am_pl key (am_ar a) → am_pl key (am_ar a) < q2 + g → gx_G K D 4 0 0 5 [(3, .int (nI g2)), (2, .int (nI q2)), (0, .ref (ad (2 + 4 * i))), (1, .int (nI key))] [] (gx_w ad (gm_h dA ad mm r)) (gx_Z K D dA 0 0 (fun v w => v = some (.int (nI (am_pl key (am_ar a)))) ∧ w = (gx_w ad (gm_h dA ad mm r))))) → gx_G K D 4 0 0 5 [(3, .int (nI g)), (2, .int (nI q)), (0, .ref (ad (2 + 4 * i))), (1, .int (nI key))] [] (gx_w ad (gm_h dA ad mm r)) (gx_Z K D dA 0 0 (fun v w => v = some (.int (nI (am_pl key (am_ar a)))) ∧ w = (gx_w ad (gm_h dA ad mm r)))) := by
    intro g g2 q hg2 hg0 hg64 h1 h2 kk
    refine gx_iload_n C 0 dd_Ma_placeOf_5 (kk := ?_)
    refine gx_if_le C 44 dd_Ma_placeOf_6 (fun h6 => absurd h6 (by rw [show (0 : Int32) = nI 0 from rfl, nI_leI (by omega) (by omega)]; omega)) (fun h6 => ?_)
    refine gx_iload_n C 1 dd_Ma_placeOf_9 (kk := ?_)
    refine gx_iload_n C 0 dd_Ma_placeOf_10 (kk := ?_)
    refine gx_iadd C dd_Ma_placeOf_11 (kk := ?_)
    refine gx_topi _ (nI_add q g) ?_
    refine gx_aload_n C 2 dd_Ma_placeOf_12 (kk := ?_)
    refine gm_get C fd_Ma_41 hi dd_Ma_placeOf_13 (kk := ?_)
    refine gx_topi _ hM.2.2.2.1 ?_
    refine gx_icmp_gt C 37 dd_Ma_placeOf_16 (fun h16 => ?_) (fun h16 => ?_)
    · rw [nI_ltI (by omega) (by omega)] at h16
      refine gx_iload_n C 0 dd_Ma_placeOf_37 (kk := ?_)
      refine gx_iconst (v := nI 1) C dd_Ma_placeOf_38 (kk := ?_)
      refine gx_ishr C dd_Ma_placeOf_39 (kk := ?_)
      refine gx_topi (nI g2) ((pk_shrN (by omega) _ 1 (by decide)).trans (by rw [hg2])) ?_
      refine gx_istore_n C _ dd_Ma_placeOf_40 (kk := ?_)
      refine gx_goto C 5 dd_Ma_placeOf_41 (kk := ?_)
      exact kk q h1 (by omega)
    · rw [nI_ltI (by omega) (by omega)] at h16
      refine gx_aload_n C 2 dd_Ma_placeOf_19 (kk := ?_)
      refine gm_get C fd_Ma_27 (by assumption) dd_Ma_placeOf_20 (kk := ?_)
      refine gx_iload_n C 1 dd_Ma_placeOf_23 (kk := ?_)
      refine gx_iload_n C 0 dd_Ma_placeOf_24 (kk := ?_)
      refine gx_iadd C dd_Ma_placeOf_25 (kk := ?_)
      refine gx_topi _ (nI_add q g) ?_
      refine gx_iconst (v := nI 1) C dd_Ma_placeOf_26 (kk := ?_)
      refine gx_isub C dd_Ma_placeOf_27 (kk := ?_)
      refine gx_topi _ (pk_sub (a := q + g) (b := 1) (by omega)) ?_
      refine gm_ln_k C hi dd_Ma_placeOf_28 (by omega) (kk := ?_)
      obtain ⟨x, hx⟩ : ∃ x, (am_ar a)[q + g - 1]? = some x := ⟨_, List.getElem?_eq_getElem (by omega)⟩
      refine gx_topi _ (hM.2.2.2.2 _ _ hx).1 ?_
      have hxb := hb x (List.mem_of_getElem? hx)
      refine gx_iload_n C 3 dd_Ma_placeOf_29 (kk := ?_)
      refine gx_icmp_ge C 37 dd_Ma_placeOf_30 (fun h30 => ?_) (fun h30 => ?_)
      · refine gx_iload_n C 0 dd_Ma_placeOf_37 (kk := ?_)
        refine gx_iconst (v := nI 1) C dd_Ma_placeOf_38 (kk := ?_)
        refine gx_ishr C dd_Ma_placeOf_39 (kk := ?_)
        refine gx_topi (nI g2) ((pk_shrN (by omega) _ 1 (by decide)).trans (by rw [hg2])) ?_
        refine gx_istore_n C _ dd_Ma_placeOf_40 (kk := ?_)
        refine gx_goto C 5 dd_Ma_placeOf_41 (kk := ?_)
        rw [nI_leI (by omega) (by omega)] at h30
        exact kk q h1 (Nat.lt_of_not_le fun hh => by
          have := am_pl_lo key (am_ar a) (q + g - 1) x (by omega) hx
          omega)
      · refine gx_iload_n C 1 dd_Ma_placeOf_33 (kk := ?_)
        refine gx_iload_n C 0 dd_Ma_placeOf_34 (kk := ?_)
        refine gx_iadd C dd_Ma_placeOf_35 (kk := ?_)
        refine gx_topi _ (nI_add q g) ?_
        refine gx_istore_n C _ dd_Ma_placeOf_36 (kk := ?_)
        refine gx_iload_n C 1 dd_Ma_placeOf_37 (kk := ?_)
        refine gx_iconst (v := nI 1) C dd_Ma_placeOf_38 (kk := ?_)
        refine gx_ishr C dd_Ma_placeOf_39 (kk := ?_)
        refine gx_topi (nI g2) ((pk_shrN (by omega) _ 1 (by decide)).trans (by rw [hg2])) ?_
        refine gx_istore_n C _ dd_Ma_placeOf_40 (kk := ?_)
        refine gx_goto C 5 dd_Ma_placeOf_41 (kk := ?_)
        rw [nI_leI (by omega) (by omega)] at h30
        exact kk (q + g) (Nat.le_of_not_lt fun hh => by
          have := am_pl_hi key (am_ar a) (q + g - 1) x hs (by omega) hx
          omega) (by omega)
  refine gx_iconst (v := nI 0) C dd_Ma_placeOf_0 (kk := ?_)
  refine gx_istore_n C _ dd_Ma_placeOf_1 (kk := ?_)
  refine gx_bipush (v := nI 64) C dd_Ma_placeOf_2 (kk := ?_)
  refine gx_istore_n C _ dd_Ma_placeOf_4 (kk := ?_)
  exact step 64 32 0 (by decide) (by decide) (by decide) (Nat.zero_le _) (by have := am_pl_le key (am_ar a); omega) fun q1 a1 b1 => step 32 16 q1 (by decide) (by decide) (by decide) a1 (by omega) fun q2 a2 b2 => step 16 8 q2 (by decide) (by decide) (by decide) a2 (by omega) fun q3 a3 b3 => step 8 4 q3 (by decide) (by decide) (by decide) a3 (by omega) fun q4 a4 b4 => step 4 2 q4 (by decide) (by decide) (by decide) a4 (by omega) fun q5 a5 b5 => step 2 1 q5 (by decide) (by decide) (by decide) a5 (by omega) fun q6 a6 b6 => step 1 0 q6 (by decide) (by decide) (by decide) a6 (by omega) fun q7 a7 b7 => done q7 (by omega)
