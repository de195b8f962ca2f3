theorem dd_JA_fill_0 : decode cc_JA_fill 0 = .ok (.iconst 0, 1) := by decide +kernel
theorem dd_JA_fill_1 : decode cc_JA_fill 1 = .ok (.istore_n 3, 1) := by decide +kernel
theorem dd_JA_fill_2 : decode cc_JA_fill 2 = .ok (.aload_n 0, 1) := by decide +kernel
theorem dd_JA_fill_3 : decode cc_JA_fill 3 = .ok (.arraylength, 1) := by decide +kernel
theorem dd_JA_fill_4 : decode cc_JA_fill 4 = .ok (.istore 4, 2) := by decide +kernel
theorem dd_JA_fill_6 : decode cc_JA_fill 6 = .ok (.iload_n 3, 1) := by decide +kernel
theorem dd_JA_fill_7 : decode cc_JA_fill 7 = .ok (.iload 4, 2) := by decide +kernel
theorem dd_JA_fill_9 : decode cc_JA_fill 9 = .ok (.if_icmp .ge 13, 3) := by decide +kernel
theorem dd_JA_fill_12 : decode cc_JA_fill 12 = .ok (.aload_n 0, 1) := by decide +kernel
theorem dd_JA_fill_13 : decode cc_JA_fill 13 = .ok (.iload_n 3, 1) := by decide +kernel
theorem dd_JA_fill_14 : decode cc_JA_fill 14 = .ok (.lload_n 1, 1) := by decide +kernel
theorem dd_JA_fill_15 : decode cc_JA_fill 15 = .ok (.lastore, 1) := by decide +kernel
theorem dd_JA_fill_16 : decode cc_JA_fill 16 = .ok (.iinc 3 1, 3) := by decide +kernel
theorem dd_JA_fill_19 : decode cc_JA_fill 19 = .ok (.goto (-13), 3) := by decide +kernel
theorem dd_JA_fill_22 : decode cc_JA_fill 22 = .ok (.return_, 1) := by decide +kernel
set_option maxRecDepth 100000 in
theorem ct_JA_fill (l : Launch) (D : va_G) (dA : Nat → ClassId) (ad : Nat → Nat) (h : Nat → va_E) (q n : Nat) (f : Nat → Int64) (x : Int64) (hq : q < 65) (hn : n < 2 ^ 31) (he : h q = .inl (dA 1, n, .inr (.inl f))) : gx_Ct l D dA yy_JA_fill cc_JA_fill 5 none 0 0 0 [.ref (ad q), .long x] (gx_w ad h) (fun v w => v = none ∧ w = gx_w ad (va_up h q (.inl (dA 1, n, .inr (.inl (fun j => if j < n then x else f j)))))) := by
  refine gx_of (by decide) (Nat.le_of_ble_eq_true rfl) (fun K C _ _ => ?_)
  have loop : ∀ m j, j + m = n → gx_G K D 5 0 0 6 [(4, .int (nI n)), (3, .int (nI j)), (0, .ref (ad q)), (1, .long x)] [] (gx_w ad (va_up h q (.inl (dA 1, n, .inr (.inl (fun t => if t < j then x else f t)))))) (gx_Z K D dA 0 0 (fun v w => v = none ∧ w = gx_w ad (va_up h q (.inl (dA 1, n, .inr (.inl (fun j => if j < n then x else f j)))))))  := by
    intro m
    induction m with
    | zero =>
      intro j hj
      refine gx_iload_n C 1 dd_JA_fill_6 (kk := ?_)
      refine gx_iload C 0 dd_JA_fill_7 (kk := ?_)
      refine gx_icmp_ge C 22 dd_JA_fill_9 (fun h9 => ?_) (fun h9 => absurd (nI_le (a := n) (b := j) (by omega) (by omega)) h9)
      refine gx_vret C dd_JA_fill_22 ?_
      refine ⟨rfl, ?_⟩
      rw [show j = n by omega]
    | succ m ih =>
      intro j hj
      refine gx_iload_n C 1 dd_JA_fill_6 (kk := ?_)
      refine gx_iload C 0 dd_JA_fill_7 (kk := ?_)
      refine gx_icmp_ge C 22 dd_JA_fill_9 (fun h9 => absurd h9 (nI_ge (by omega) hn)) (fun h9 => ?_)
      refine gx_aload_n C 2 dd_JA_fill_12 (kk := ?_)
      refine gx_iload_n C 1 dd_JA_fill_13 (kk := ?_)
      refine gx_lload_n C 3 dd_JA_fill_14 (kk := ?_)
      refine gx_lastore C gm_us dd_JA_fill_15 (vp_in_nI (by omega) hn) (hq := hq) (kk := ?_)
      refine gx_iinc C 1 (nI (j + 1)) _ dd_JA_fill_16 (nI_1 j) (kk := ?_)
      refine gx_goto C 6 dd_JA_fill_19 (kk := ?_)
      refine gx_loc [1, 0, 2, 3] ?_
      refine gx_wld ?_ (ih (j + 1) (by omega))
      rw [gm_uu, nI_clamp (by omega), show vp_updL (fun t => if t < j then x else f t) j x = (fun t => if t < j + 1 then x else f t) from ?_]
      funext t
      simp only [vp_updL]
      by_cases h1 : t = j
      · simp [h1]
      · by_cases h2 : t < j
        · simp [h1, h2, show t < j + 1 by omega]
        · simp [h1, h2, show ¬ t < j + 1 by omega]
  refine gx_iconst (v := nI 0) C dd_JA_fill_0 (kk := ?_)
  refine gx_istore_n C _ dd_JA_fill_1 (kk := ?_)
  refine gx_aload_n C 1 dd_JA_fill_2 (kk := ?_)
  refine gx_alen C he dd_JA_fill_3 (hq := hq) (kk := ?_)
  refine gx_istore C _ dd_JA_fill_4 (kk := ?_)
  refine gx_wld ?_ (loop n 0 (by omega))
  simp only [Nat.not_lt_zero, if_false]
  rw [← he, gm_ue]
theorem st_gt {a b : Int64} (h : 0 < (if a > b then (1 : Int32) else if a = b then 0 else -1)) : b < a := by
  by_cases h1 : a > b
  · exact h1
  · rw [if_neg h1] at h
    by_cases h2 : a = b
    · rw [if_pos h2] at h; exact absurd h (by decide)
    · rw [if_neg h2] at h; exact absurd h (by decide)
theorem st_ngt {a b : Int64} (h : ¬ 0 < (if a > b then (1 : Int32) else if a = b then 0 else -1)) : ¬ b < a := fun h1 => h (by rw [if_pos h1]; decide)
theorem dd_WM_isSlot_0 : decode cc_WM_isSlot 0 = .ok (.iload_n 0, 1) := by decide +kernel
theorem dd_WM_isSlot_1 : decode cc_WM_isSlot 1 = .ok (.ifCond .lt 12, 3) := by decide +kernel
theorem dd_WM_isSlot_4 : decode cc_WM_isSlot 4 = .ok (.iload_n 0, 1) := by decide +kernel
theorem dd_WM_isSlot_5 : decode cc_WM_isSlot 5 = .ok (.iconst 4, 1) := by decide +kernel
theorem dd_WM_isSlot_6 : decode cc_WM_isSlot 6 = .ok (.if_icmp .ge 7, 3) := by decide +kernel
theorem dd_WM_isSlot_9 : decode cc_WM_isSlot 9 = .ok (.iconst 1, 1) := by decide +kernel
theorem dd_WM_isSlot_10 : decode cc_WM_isSlot 10 = .ok (.goto 4, 3) := by decide +kernel
theorem dd_WM_isSlot_13 : decode cc_WM_isSlot 13 = .ok (.iconst 0, 1) := by decide +kernel
theorem dd_WM_isSlot_14 : decode cc_WM_isSlot 14 = .ok (.ireturn, 1) := by decide +kernel
set_option maxRecDepth 100000 in
theorem ct_WM_isSlot (l : Launch) (D : va_G) (dA : Nat → ClassId) (ws : va_W) (a : Int32) : gx_Ct l D dA yy_WM_isSlot cc_WM_isSlot 1 (some .boolean) 0 0 0 [.int a] ws (fun v w => v = some (.int (if a < 0 ∨ nI 4 ≤ a then nI 0 else nI 1)) ∧ w = ws) := by
  refine gx_of (by decide) (Nat.le_of_ble_eq_true rfl) (fun K C _ _ => ?_)
  refine gx_iload_n C 0 dd_WM_isSlot_0 (kk := ?_)
  refine gx_if_lt C 13 dd_WM_isSlot_1 (fun h1 => ?_) (fun h1 => ?_)
  · refine gx_iconst (v := nI 0) C dd_WM_isSlot_13 (kk := ?_)
    refine gx_zret C dd_WM_isSlot_14 (by rfl) ?_
    refine ⟨?_, rfl⟩
    simp [*]
  · refine gx_iload_n C 0 dd_WM_isSlot_4 (kk := ?_)
    refine gx_iconst (v := nI 4) C dd_WM_isSlot_5 (kk := ?_)
    refine gx_icmp_ge C 13 dd_WM_isSlot_6 (fun h6 => ?_) (fun h6 => ?_)
    · refine gx_iconst (v := nI 0) C dd_WM_isSlot_13 (kk := ?_)
      refine gx_zret C dd_WM_isSlot_14 (by rfl) ?_
      refine ⟨?_, rfl⟩
      simp [*]
    · refine gx_iconst (v := nI 1) C dd_WM_isSlot_9 (kk := ?_)
      refine gx_goto C 14 dd_WM_isSlot_10 (kk := ?_)
      refine gx_zret C dd_WM_isSlot_14 (by rfl) ?_
      refine ⟨?_, rfl⟩
      simp [*]
theorem lc_lt {a b : Int64} : lg_cmp a b < 0 ↔ a < b := by
  unfold lg_cmp
  by_cases h1 : a > b
  · rw [if_pos h1]
    exact ⟨fun h => absurd h (by decide), fun h => absurd h (Int64.lt_asymm h1)⟩
  · rw [if_neg h1]
    by_cases h2 : a = b
    · rw [if_pos h2]
      subst h2
      exact ⟨fun h => absurd h (by decide), fun h => absurd h Int64.lt_irrefl⟩
    · rw [if_neg h2]
      exact ⟨fun _ => Int64.lt_of_le_of_ne (Int64.not_lt.mp h1) h2, fun _ => by decide⟩
theorem lc_gt {a b : Int64} : 0 < lg_cmp a b ↔ b < a := ⟨st_gt, fun h => by unfold lg_cmp; rw [if_pos h]; decide⟩
theorem lc_eq {a b : Int64} : lg_cmp a b = 0 ↔ a = b := by
  unfold lg_cmp
  by_cases h1 : a > b
  · rw [if_pos h1]
    exact ⟨fun h => absurd h (by decide), fun h => absurd h1 (by subst h; exact Int64.lt_irrefl)⟩
  · rw [if_neg h1]
    by_cases h2 : a = b
    · rw [if_pos h2]; exact ⟨fun _ => h2, fun _ => rfl⟩
    · rw [if_neg h2]; exact ⟨fun h => absurd h (by decide), fun h => absurd h h2⟩
theorem lc_le {a b : Int64} : lg_cmp a b ≤ 0 ↔ a ≤ b := by
  rw [← Int64.not_lt, ← lc_gt]
  exact (Int32.not_lt).symm
theorem lc_ge {a b : Int64} : 0 ≤ lg_cmp a b ↔ b ≤ a := by
  rw [← Int64.not_lt, ← lc_lt]
  exact (Int32.not_lt).symm
theorem dd_WM_isWeight_0 : decode cc_WM_isWeight 0 = .ok (.lload_n 0, 1) := by decide +kernel
theorem dd_WM_isWeight_1 : decode cc_WM_isWeight 1 = .ok (.lconst 0, 1) := by decide +kernel
theorem dd_WM_isWeight_2 : decode cc_WM_isWeight 2 = .ok (.lcmp, 1) := by decide +kernel
theorem dd_WM_isWeight_3 : decode cc_WM_isWeight 3 = .ok (.ifCond .lt 15, 3) := by decide +kernel
theorem dd_WM_isWeight_6 : decode cc_WM_isWeight 6 = .ok (.lload_n 0, 1) := by decide +kernel
theorem dd_WM_isWeight_7 : decode cc_WM_isWeight 7 = .ok (.ldc2_w 208, 3) := by decide +kernel
theorem dd_WM_isWeight_10 : decode cc_WM_isWeight 10 = .ok (.lcmp, 1) := by decide +kernel
theorem dd_WM_isWeight_11 : decode cc_WM_isWeight 11 = .ok (.ifCond .gt 7, 3) := by decide +kernel
theorem dd_WM_isWeight_14 : decode cc_WM_isWeight 14 = .ok (.iconst 1, 1) := by decide +kernel
theorem dd_WM_isWeight_15 : decode cc_WM_isWeight 15 = .ok (.goto 4, 3) := by decide +kernel
theorem dd_WM_isWeight_18 : decode cc_WM_isWeight 18 = .ok (.iconst 0, 1) := by decide +kernel
theorem dd_WM_isWeight_19 : decode cc_WM_isWeight 19 = .ok (.ireturn, 1) := by decide +kernel
set_option maxRecDepth 100000 in
theorem ct_WM_isWeight (l : Launch) (D : va_G) (dA : Nat → ClassId) (ws : va_W) (a : Int64) : gx_Ct l D dA yy_WM_isWeight cc_WM_isWeight 2 (some .boolean) 0 0 0 [.long a] ws (fun v w => v = some (.int (if a < lN 0 ∨ 1000000000 < a then nI 0 else nI 1)) ∧ w = ws) := by
  refine gx_of (by decide) (Nat.le_of_ble_eq_true rfl) (fun K C _ _ => ?_)
  refine gx_lload_n C 0 dd_WM_isWeight_0 (kk := ?_)
  refine gx_lconst (v := lN 0) C dd_WM_isWeight_1 (kk := ?_)
  refine gx_lcmp C dd_WM_isWeight_2 (kk := ?_)
  refine gx_if_lt C 18 dd_WM_isWeight_3 (fun h3 => ?_) (fun h3 => ?_)
  · refine gx_iconst (v := nI 0) C dd_WM_isWeight_18 (kk := ?_)
    refine gx_zret C dd_WM_isWeight_19 (by rfl) ?_
    refine ⟨?_, rfl⟩
    rw [lc_lt] at h3
    try rw [lc_gt] at h11
    simp [*]
  · refine gx_lload_n C 0 dd_WM_isWeight_6 (kk := ?_)
    refine gx_ldc2 C dd_WM_isWeight_7 kc_WM_208 (kk := ?_)
    refine gx_lcmp C dd_WM_isWeight_10 (kk := ?_)
    refine gx_if_gt C 18 dd_WM_isWeight_11 (fun h11 => ?_) (fun h11 => ?_)
    · refine gx_iconst (v := nI 0) C dd_WM_isWeight_18 (kk := ?_)
      refine gx_zret C dd_WM_isWeight_19 (by rfl) ?_
      refine ⟨?_, rfl⟩
      rw [lc_lt] at h3
      try rw [lc_gt] at h11
      simp [*]
    · refine gx_iconst (v := nI 1) C dd_WM_isWeight_14 (kk := ?_)
      refine gx_goto C 19 dd_WM_isWeight_15 (kk := ?_)
      refine gx_zret C dd_WM_isWeight_19 (by rfl) ?_
      refine ⟨?_, rfl⟩
      rw [lc_lt] at h3
      try rw [lc_gt] at h11
      simp [*]
theorem dd_WM_labelPair_0 : decode cc_WM_labelPair 0 = .ok (.bipush 8, 2) := by decide +kernel
theorem dd_WM_labelPair_2 : decode cc_WM_labelPair 2 = .ok (.iload_n 0, 1) := by decide +kernel
theorem dd_WM_labelPair_3 : decode cc_WM_labelPair 3 = .ok (.imul, 1) := by decide +kernel
theorem dd_WM_labelPair_4 : decode cc_WM_labelPair 4 = .ok (.iload_n 1, 1) := by decide +kernel
theorem dd_WM_labelPair_5 : decode cc_WM_labelPair 5 = .ok (.iadd, 1) := by decide +kernel
theorem dd_WM_labelPair_6 : decode cc_WM_labelPair 6 = .ok (.ireturn, 1) := by decide +kernel
set_option maxRecDepth 100000 in
theorem ct_WM_labelPair (l : Launch) (D : va_G) (dA : Nat → ClassId) (ws : va_W) (i o : Nat) : gx_Ct l D dA yy_WM_labelPair cc_WM_labelPair 2 (some .int) 0 0 0 [.int (nI i), .int (nI o)] ws (fun v w => v = some (.int (nI (8 * i + o))) ∧ w = ws) := by
  refine gx_of (by decide) (Nat.le_of_ble_eq_true rfl) (fun K C _ _ => ?_)
  refine gx_bipush (v := nI 8) C dd_WM_labelPair_0 (kk := ?_)
  refine gx_iload_n C 0 dd_WM_labelPair_2 (kk := ?_)
  refine gx_imul C dd_WM_labelPair_3 (kk := ?_)
  refine gx_iload_n C 1 dd_WM_labelPair_4 (kk := ?_)
  refine gx_iadd C dd_WM_labelPair_5 (kk := ?_)
  refine gx_iret C dd_WM_labelPair_6 ?_
  refine ⟨?_, rfl⟩
  rw [pk_mul, nI_add]
theorem dd_WM_keyOf_0 : decode cc_WM_keyOf 0 = .ok (.iload_n 0, 1) := by decide +kernel
theorem dd_WM_keyOf_1 : decode cc_WM_keyOf 1 = .ok (.bipush 10, 2) := by decide +kernel
theorem dd_WM_keyOf_3 : decode cc_WM_keyOf 3 = .ok (.ishl, 1) := by decide +kernel
theorem dd_WM_keyOf_4 : decode cc_WM_keyOf 4 = .ok (.iload_n 1, 1) := by decide +kernel
theorem dd_WM_keyOf_5 : decode cc_WM_keyOf 5 = .ok (.iconst 4, 1) := by decide +kernel
theorem dd_WM_keyOf_6 : decode cc_WM_keyOf 6 = .ok (.ishl, 1) := by decide +kernel
theorem dd_WM_keyOf_7 : decode cc_WM_keyOf 7 = .ok (.iadd, 1) := by decide +kernel
theorem dd_WM_keyOf_8 : decode cc_WM_keyOf 8 = .ok (.iload_n 2, 1) := by decide +kernel
theorem dd_WM_keyOf_9 : decode cc_WM_keyOf 9 = .ok (.iadd, 1) := by decide +kernel
theorem dd_WM_keyOf_10 : decode cc_WM_keyOf 10 = .ok (.ireturn, 1) := by decide +kernel
set_option maxRecDepth 100000 in
theorem ct_WM_keyOf (l : Launch) (D : va_G) (dA : Nat → ClassId) (ws : va_W) (f g t : Nat) (hf : f < 64) (hg : g < 128) (ht : t < 16) : gx_Ct l D dA yy_WM_keyOf cc_WM_keyOf 3 (some .int) 0 0 0 [.int (nI f), .int (nI g), .int (nI t)] ws (fun v w => v = some (.int (nI (f * 1024 + g * 16 + t))) ∧ w = ws) := by
  refine gx_of (by decide) (Nat.le_of_ble_eq_true rfl) (fun K C _ _ => ?_)
  refine gx_iload_n C 0 dd_WM_keyOf_0 (kk := ?_)
  refine gx_bipush (v := nI 10) C dd_WM_keyOf_1 (kk := ?_)
  refine gx_ishl C dd_WM_keyOf_3 (kk := ?_)
  refine gx_iload_n C 1 dd_WM_keyOf_4 (kk := ?_)
  refine gx_iconst (v := nI 4) C dd_WM_keyOf_5 (kk := ?_)
  refine gx_ishl C dd_WM_keyOf_6 (kk := ?_)
  refine gx_iadd C dd_WM_keyOf_7 (kk := ?_)
  refine gx_iload_n C 2 dd_WM_keyOf_8 (kk := ?_)
  refine gx_iadd C dd_WM_keyOf_9 (kk := ?_)
  refine gx_iret C dd_WM_keyOf_10 ?_
  refine ⟨?_, rfl⟩
  rw [pk_shlN _ 10 (by decide) (by omega), pk_shlN _ 4 (by decide) (by omega), nI_add, nI_add]
theorem dd_WM_fromOf_0 : decode cc_WM_fromOf 0 = .ok (.iload_n 0, 1) := by decide +kernel
theorem dd_WM_fromOf_1 : decode cc_WM_fromOf 1 = .ok (.bipush 10, 2) := by decide +kernel
theorem dd_WM_fromOf_3 : decode cc_WM_fromOf 3 = .ok (.ishr, 1) := by decide +kernel
theorem dd_WM_fromOf_4 : decode cc_WM_fromOf 4 = .ok (.ireturn, 1) := by decide +kernel
set_option maxRecDepth 100000 in
theorem ct_WM_fromOf (l : Launch) (D : va_G) (dA : Nat → ClassId) (ws : va_W) (k : Nat) (hk : k < 2 ^ 31) : gx_Ct l D dA yy_WM_fromOf cc_WM_fromOf 1 (some .int) 0 0 0 [.int (nI k)] ws (fun v w => v = some (.int (nI (k / 1024))) ∧ w = ws) := by
  refine gx_of (by decide) (Nat.le_of_ble_eq_true rfl) (fun K C _ _ => ?_)
  refine gx_iload_n C 0 dd_WM_fromOf_0 (kk := ?_)
  refine gx_bipush (v := nI 10) C dd_WM_fromOf_1 (kk := ?_)
  refine gx_ishr C dd_WM_fromOf_3 (kk := ?_)
  refine gx_iret C dd_WM_fromOf_4 ?_
  refine ⟨?_, rfl⟩
  rw [pk_shrN hk _ 10 (by decide)]
theorem dd_WM_labelsOf_0 : decode cc_WM_labelsOf 0 = .ok (.iload_n 0, 1) := by decide +kernel
theorem dd_WM_labelsOf_1 : decode cc_WM_labelsOf 1 = .ok (.iconst 4, 1) := by decide +kernel
theorem dd_WM_labelsOf_2 : decode cc_WM_labelsOf 2 = .ok (.ishr, 1) := by decide +kernel
theorem dd_WM_labelsOf_3 : decode cc_WM_labelsOf 3 = .ok (.bipush 63, 2) := by decide +kernel
theorem dd_WM_labelsOf_5 : decode cc_WM_labelsOf 5 = .ok (.iand, 1) := by decide +kernel
theorem dd_WM_labelsOf_6 : decode cc_WM_labelsOf 6 = .ok (.ireturn, 1) := by decide +kernel
set_option maxRecDepth 100000 in
theorem ct_WM_labelsOf (l : Launch) (D : va_G) (dA : Nat → ClassId) (ws : va_W) (k : Nat) (hk : k < 2 ^ 31) : gx_Ct l D dA yy_WM_labelsOf cc_WM_labelsOf 1 (some .int) 0 0 0 [.int (nI k)] ws (fun v w => v = some (.int (nI (k / 16 % 64))) ∧ w = ws) := by
  refine gx_of (by decide) (Nat.le_of_ble_eq_true rfl) (fun K C _ _ => ?_)
  refine gx_iload_n C 0 dd_WM_labelsOf_0 (kk := ?_)
  refine gx_iconst (v := nI 4) C dd_WM_labelsOf_1 (kk := ?_)
  refine gx_ishr C dd_WM_labelsOf_2 (kk := ?_)
  refine gx_bipush (v := nI 63) C dd_WM_labelsOf_3 (kk := ?_)
  refine gx_iand C dd_WM_labelsOf_5 (kk := ?_)
  refine gx_iret C dd_WM_labelsOf_6 ?_
  refine ⟨?_, rfl⟩
  rw [pk_shrN hk _ 4 (by decide), pk_andN (by omega) 6 (by decide)]
theorem dd_WM_inOf_0 : decode cc_WM_inOf 0 = .ok (.iload_n 0, 1) := by decide +kernel
theorem dd_WM_inOf_1 : decode cc_WM_inOf 1 = .ok (.bipush 7, 2) := by decide +kernel
theorem dd_WM_inOf_3 : decode cc_WM_inOf 3 = .ok (.ishr, 1) := by decide +kernel
theorem dd_WM_inOf_4 : decode cc_WM_inOf 4 = .ok (.bipush 7, 2) := by decide +kernel
theorem dd_WM_inOf_6 : decode cc_WM_inOf 6 = .ok (.iand, 1) := by decide +kernel
theorem dd_WM_inOf_7 : decode cc_WM_inOf 7 = .ok (.ireturn, 1) := by decide +kernel
set_option maxRecDepth 100000 in
theorem ct_WM_inOf (l : Launch) (D : va_G) (dA : Nat → ClassId) (ws : va_W) (k : Nat) (hk : k < 2 ^ 31) : gx_Ct l D dA yy_WM_inOf cc_WM_inOf 1 (some .int) 0 0 0 [.int (nI k)] ws (fun v w => v = some (.int (nI (k / 128 % 8))) ∧ w = ws) := by
  refine gx_of (by decide) (Nat.le_of_ble_eq_true rfl) (fun K C _ _ => ?_)
  refine gx_iload_n C 0 dd_WM_inOf_0 (kk := ?_)
  refine gx_bipush (v := nI 7) C dd_WM_inOf_1 (kk := ?_)
  refine gx_ishr C dd_WM_inOf_3 (kk := ?_)
  refine gx_bipush (v := nI 7) C dd_WM_inOf_4 (kk := ?_)
  refine gx_iand C dd_WM_inOf_6 (kk := ?_)
  refine gx_iret C dd_WM_inOf_7 ?_
  refine ⟨?_, rfl⟩
  rw [pk_shrN hk _ 7 (by decide), pk_andN (by omega) 3 (by decide)]
theorem dd_WM_outOf_0 : decode cc_WM_outOf 0 = .ok (.iload_n 0, 1) := by decide +kernel
theorem dd_WM_outOf_1 : decode cc_WM_outOf 1 = .ok (.iconst 4, 1) := by decide +kernel
theorem dd_WM_outOf_2 : decode cc_WM_outOf 2 = .ok (.ishr, 1) := by decide +kernel
theorem dd_WM_outOf_3 : decode cc_WM_outOf 3 = .ok (.bipush 7, 2) := by decide +kernel
theorem dd_WM_outOf_5 : decode cc_WM_outOf 5 = .ok (.iand, 1) := by decide +kernel
theorem dd_WM_outOf_6 : decode cc_WM_outOf 6 = .ok (.ireturn, 1) := by decide +kernel
set_option maxRecDepth 100000 in
theorem ct_WM_outOf (l : Launch) (D : va_G) (dA : Nat → ClassId) (ws : va_W) (k : Nat) (hk : k < 2 ^ 31) : gx_Ct l D dA yy_WM_outOf cc_WM_outOf 1 (some .int) 0 0 0 [.int (nI k)] ws (fun v w => v = some (.int (nI (k / 16 % 8))) ∧ w = ws) := by
  refine gx_of (by decide) (Nat.le_of_ble_eq_true rfl) (fun K C _ _ => ?_)
  refine gx_iload_n C 0 dd_WM_outOf_0 (kk := ?_)
  refine gx_iconst (v := nI 4) C dd_WM_outOf_1 (kk := ?_)
  refine gx_ishr C dd_WM_outOf_2 (kk := ?_)
  refine gx_bipush (v := nI 7) C dd_WM_outOf_3 (kk := ?_)
  refine gx_iand C dd_WM_outOf_5 (kk := ?_)
  refine gx_iret C dd_WM_outOf_6 ?_
  refine ⟨?_, rfl⟩
  rw [pk_shrN hk _ 4 (by decide), pk_andN (by omega) 3 (by decide)]
theorem dd_WM_toOf_0 : decode cc_WM_toOf 0 = .ok (.iload_n 0, 1) := by decide +kernel
theorem dd_WM_toOf_1 : decode cc_WM_toOf 1 = .ok (.bipush 15, 2) := by decide +kernel
theorem dd_WM_toOf_3 : decode cc_WM_toOf 3 = .ok (.iand, 1) := by decide +kernel
theorem dd_WM_toOf_4 : decode cc_WM_toOf 4 = .ok (.ireturn, 1) := by decide +kernel
set_option maxRecDepth 100000 in
theorem ct_WM_toOf (l : Launch) (D : va_G) (dA : Nat → ClassId) (ws : va_W) (k : Nat) (hk : k < 2 ^ 31) : gx_Ct l D dA yy_WM_toOf cc_WM_toOf 1 (some .int) 0 0 0 [.int (nI k)] ws (fun v w => v = some (.int (nI (k % 16))) ∧ w = ws) := by
  refine gx_of (by decide) (Nat.le_of_ble_eq_true rfl) (fun K C _ _ => ?_)
  refine gx_iload_n C 0 dd_WM_toOf_0 (kk := ?_)
  refine gx_bipush (v := nI 15) C dd_WM_toOf_1 (kk := ?_)
  refine gx_iand C dd_WM_toOf_3 (kk := ?_)
  refine gx_iret C dd_WM_toOf_4 ?_
  refine ⟨?_, rfl⟩
  rw [pk_andN (by omega) 4 (by decide)]
