theorem dd_Ma_spread_0 : decode cc_Ma_spread 0 = .ok (.iconst 1, 1) := by decide +kernel
theorem dd_Ma_spread_1 : decode cc_Ma_spread 1 = .ok (.istore_n 3, 1) := by decide +kernel
theorem dd_Ma_spread_2 : decode cc_Ma_spread 2 = .ok (.iconst 0, 1) := by decide +kernel
theorem dd_Ma_spread_3 : decode cc_Ma_spread 3 = .ok (.istore 4, 2) := by decide +kernel
theorem dd_Ma_spread_5 : decode cc_Ma_spread 5 = .ok (.iload 4, 2) := by decide +kernel
theorem dd_Ma_spread_7 : decode cc_Ma_spread 7 = .ok (.aload_n 0, 1) := by decide +kernel
theorem dd_Ma_spread_8 : decode cc_Ma_spread 8 = .ok (.getfield 34, 3) := by decide +kernel
theorem dd_Ma_spread_11 : decode cc_Ma_spread 11 = .ok (.if_icmp .ge 102, 3) := by decide +kernel
theorem dd_Ma_spread_14 : decode cc_Ma_spread 14 = .ok (.iload_n 3, 1) := by decide +kernel
theorem dd_Ma_spread_15 : decode cc_Ma_spread 15 = .ok (.ifCond .eq 98, 3) := by decide +kernel
theorem dd_Ma_spread_18 : decode cc_Ma_spread 18 = .ok (.iconst 0, 1) := by decide +kernel
theorem dd_Ma_spread_19 : decode cc_Ma_spread 19 = .ok (.istore_n 3, 1) := by decide +kernel
theorem dd_Ma_spread_20 : decode cc_Ma_spread 20 = .ok (.iconst 0, 1) := by decide +kernel
theorem dd_Ma_spread_21 : decode cc_Ma_spread 21 = .ok (.istore 5, 2) := by decide +kernel
theorem dd_Ma_spread_23 : decode cc_Ma_spread 23 = .ok (.iload 5, 2) := by decide +kernel
theorem dd_Ma_spread_25 : decode cc_Ma_spread 25 = .ok (.aload_n 0, 1) := by decide +kernel
theorem dd_Ma_spread_26 : decode cc_Ma_spread 26 = .ok (.getfield 41, 3) := by decide +kernel
theorem dd_Ma_spread_29 : decode cc_Ma_spread 29 = .ok (.if_icmp .ge 78, 3) := by decide +kernel
theorem dd_Ma_spread_32 : decode cc_Ma_spread 32 = .ok (.aload_n 1, 1) := by decide +kernel
theorem dd_Ma_spread_33 : decode cc_Ma_spread 33 = .ok (.iload_n 2, 1) := by decide +kernel
theorem dd_Ma_spread_34 : decode cc_Ma_spread 34 = .ok (.aload_n 0, 1) := by decide +kernel
theorem dd_Ma_spread_35 : decode cc_Ma_spread 35 = .ok (.getfield 27, 3) := by decide +kernel
theorem dd_Ma_spread_38 : decode cc_Ma_spread 38 = .ok (.iload 5, 2) := by decide +kernel
theorem dd_Ma_spread_40 : decode cc_Ma_spread 40 = .ok (.iaload, 1) := by decide +kernel
theorem dd_Ma_spread_41 : decode cc_Ma_spread 41 = .ok (.invokestatic 64, 3) := by decide +kernel
theorem dd_Ma_spread_44 : decode cc_Ma_spread 44 = .ok (.iadd, 1) := by decide +kernel
theorem dd_Ma_spread_45 : decode cc_Ma_spread 45 = .ok (.laload, 1) := by decide +kernel
theorem dd_Ma_spread_46 : decode cc_Ma_spread 46 = .ok (.aload_n 0, 1) := by decide +kernel
theorem dd_Ma_spread_47 : decode cc_Ma_spread 47 = .ok (.getfield 31, 3) := by decide +kernel
theorem dd_Ma_spread_50 : decode cc_Ma_spread 50 = .ok (.iload 5, 2) := by decide +kernel
theorem dd_Ma_spread_52 : decode cc_Ma_spread 52 = .ok (.laload, 1) := by decide +kernel
theorem dd_Ma_spread_53 : decode cc_Ma_spread 53 = .ok (.ladd, 1) := by decide +kernel
theorem dd_Ma_spread_54 : decode cc_Ma_spread 54 = .ok (.lstore 6, 2) := by decide +kernel
theorem dd_Ma_spread_56 : decode cc_Ma_spread 56 = .ok (.iload_n 2, 1) := by decide +kernel
theorem dd_Ma_spread_57 : decode cc_Ma_spread 57 = .ok (.aload_n 0, 1) := by decide +kernel
theorem dd_Ma_spread_58 : decode cc_Ma_spread 58 = .ok (.getfield 27, 3) := by decide +kernel
theorem dd_Ma_spread_61 : decode cc_Ma_spread 61 = .ok (.iload 5, 2) := by decide +kernel
theorem dd_Ma_spread_63 : decode cc_Ma_spread 63 = .ok (.iaload, 1) := by decide +kernel
theorem dd_Ma_spread_64 : decode cc_Ma_spread 64 = .ok (.invokestatic 67, 3) := by decide +kernel
theorem dd_Ma_spread_67 : decode cc_Ma_spread 67 = .ok (.iadd, 1) := by decide +kernel
theorem dd_Ma_spread_68 : decode cc_Ma_spread 68 = .ok (.istore 8, 2) := by decide +kernel
theorem dd_Ma_spread_70 : decode cc_Ma_spread 70 = .ok (.aload_n 0, 1) := by decide +kernel
theorem dd_Ma_spread_71 : decode cc_Ma_spread 71 = .ok (.getfield 27, 3) := by decide +kernel
theorem dd_Ma_spread_74 : decode cc_Ma_spread 74 = .ok (.iload 5, 2) := by decide +kernel
theorem dd_Ma_spread_76 : decode cc_Ma_spread 76 = .ok (.iaload, 1) := by decide +kernel
theorem dd_Ma_spread_77 : decode cc_Ma_spread 77 = .ok (.invokestatic 70, 3) := by decide +kernel
theorem dd_Ma_spread_80 : decode cc_Ma_spread 80 = .ok (.ifCond .ne 21, 3) := by decide +kernel
theorem dd_Ma_spread_83 : decode cc_Ma_spread 83 = .ok (.lload 6, 2) := by decide +kernel
theorem dd_Ma_spread_85 : decode cc_Ma_spread 85 = .ok (.aload_n 1, 1) := by decide +kernel
theorem dd_Ma_spread_86 : decode cc_Ma_spread 86 = .ok (.iload 8, 2) := by decide +kernel
theorem dd_Ma_spread_88 : decode cc_Ma_spread 88 = .ok (.laload, 1) := by decide +kernel
theorem dd_Ma_spread_89 : decode cc_Ma_spread 89 = .ok (.lcmp, 1) := by decide +kernel
theorem dd_Ma_spread_90 : decode cc_Ma_spread 90 = .ok (.ifCond .ge 11, 3) := by decide +kernel
theorem dd_Ma_spread_93 : decode cc_Ma_spread 93 = .ok (.aload_n 1, 1) := by decide +kernel
theorem dd_Ma_spread_94 : decode cc_Ma_spread 94 = .ok (.iload 8, 2) := by decide +kernel
theorem dd_Ma_spread_96 : decode cc_Ma_spread 96 = .ok (.lload 6, 2) := by decide +kernel
theorem dd_Ma_spread_98 : decode cc_Ma_spread 98 = .ok (.lastore, 1) := by decide +kernel
theorem dd_Ma_spread_99 : decode cc_Ma_spread 99 = .ok (.iconst 1, 1) := by decide +kernel
theorem dd_Ma_spread_100 : decode cc_Ma_spread 100 = .ok (.istore_n 3, 1) := by decide +kernel
theorem dd_Ma_spread_101 : decode cc_Ma_spread 101 = .ok (.iinc 5 1, 3) := by decide +kernel
theorem dd_Ma_spread_104 : decode cc_Ma_spread 104 = .ok (.goto (-81), 3) := by decide +kernel
theorem dd_Ma_spread_107 : decode cc_Ma_spread 107 = .ok (.iinc 4 1, 3) := by decide +kernel
theorem dd_Ma_spread_110 : decode cc_Ma_spread 110 = .ok (.goto (-105), 3) := by decide +kernel
theorem dd_Ma_spread_113 : decode cc_Ma_spread 113 = .ok (.return_, 1) := by decide +kernel
def am_fn (o : Option Nat) : Nat := match o with
  | none => 1152921504606846976
  | some x => x
theorem am_f_n (o : Option Nat) : am_f o = lN (am_fn o) := by cases o <;> rfl
theorem am_f_ad {o : Option Nat} {w x : Nat} (h : ls_ad o w = some x) : am_f o + lN w = am_f (ls_ad o w) := by
  cases o with
  | none => cases h
  | some y => exact lN_add y w
theorem am_f_lt {o o2 : Option Nat} {w : Nat} (h1 : ∀ x, o = some x → x + w < 1152921504606846976) (h2 : ∀ x, o2 = some x → x < 1152921504606846976) (hw : w < 1152921504606846976) : (am_f o + lN w < am_f o2) ↔ ls_lt (ls_ad o w) o2 = true := by
  rw [am_f_n, am_f_n, lN_add]
  cases o with
  | none =>
    cases o2 with
    | none =>
      show lN (1152921504606846976 + w) < lN 1152921504606846976 ↔ _
      rw [pk_lLT (by omega) (by omega)]
      simp [ls_ad, ls_lt]
    | some y =>
      have := h2 y rfl
      show lN (1152921504606846976 + w) < lN y ↔ _
      rw [pk_lLT (by omega) (by omega)]
      simp [ls_ad, ls_lt]
      omega
  | some x =>
    have := h1 x rfl
    cases o2 with
    | none =>
      show lN (x + w) < lN 1152921504606846976 ↔ _
      rw [pk_lLT (by omega) (by omega)]
      simp [ls_ad, ls_lt]
      omega
    | some y =>
      have := h2 y rfl
      show lN (x + w) < lN y ↔ _
      rw [pk_lLT (by omega) (by omega)]
      simp [ls_ad, ls_lt]
def am_xe (x : Nat × Nat) : ls_A := (x.1 / 1024, x.1 % 16, x.2)
/-- the steps that read and write nothing -/
def am_ee (l : List (Nat × Nat)) : List ls_A := (l.filter (fun x => x.1 / 16 % 64 == 0)).map am_xe
theorem am_ee_s {l : List (Nat × Nat)} {j : Nat} {x : Nat × Nat} (h : l[j]? = some x) : am_ee (l.take (j + 1)) = if x.1 / 16 % 64 = 0 then am_ee (l.take j) ++ [am_xe x] else am_ee (l.take j) := by
  unfold am_ee
  rw [List.take_add_one, h]
  by_cases hx : x.1 / 16 % 64 = 0
  · simp [List.filter_append, hx]
  · simp [List.filter_append, hx]
theorem ls_rd_s (E : List ls_A) (x : ls_A) (v : ls_V) : ls_rd (E ++ [x]) v = ls_rx (ls_rd E v) x := by
  unfold ls_rd
  rw [List.foldl_append]
  rfl
theorem am_ee_in {l : List (Nat × Nat)} {n : Nat} (h : ∀ x ∈ l, x.1 / 1024 < n ∧ x.1 % 16 < n) : ∀ e ∈ am_ee l, e.1 < n ∧ e.2.1 < n := by
  intro e he
  obtain ⟨x, hx, rfl⟩ := List.mem_map.mp he
  exact h x (List.mem_filter.mp hx).1
/-- an array's places from base on hold the values v -/
def sp_in (f : Nat → Int64) (base : Nat) (v : ls_V) : Prop := ∀ s, s < 16 → f (base + s) = am_f (v s)
def sp_b (B : Nat) (v : ls_V) : Prop := ∀ s x, v s = some x → x < B
theorem sp_b_rx {B w : Nat} {v : ls_V} {x : ls_A} (h : sp_b B v) (hx : x.2.2 ≤ w) : sp_b (B + w) (ls_rx v x) := by
  intro s y hy
  unfold ls_rx at hy
  by_cases h1 : ls_lt (ls_ad (v x.1) x.2.2) (v x.2.1) = true
  · rw [if_pos h1] at hy
    by_cases hs : s = x.2.1
    · subst hs
      simp only [va_up, if_true] at hy
      cases ho : v x.1 with
      | none => rw [ho] at hy; cases hy
      | some z =>
        rw [ho] at hy
        cases hy
        have := h _ _ ho
        show z + x.2.2 < B + w
        omega
    · simp only [va_up, if_neg hs] at hy
      have := h _ _ hy
      omega
  · rw [if_neg h1] at hy
    have := h _ _ hy
    omega
theorem sp_b_mono {B C : Nat} {v : ls_V} (h : sp_b B v) (hc : B ≤ C) : sp_b C v := fun s x hx => Nat.lt_of_lt_of_le (h s x hx) hc
set_option maxRecDepth 100000 in
set_option maxHeartbeats 4000000 in
theorem ct_Ma_spread (l : Launch) (D : va_G) (dA : Nat → ClassId) (ad : Nat → Nat) (mm : Nat → gm_V) (r : Nat → va_E) {i q n0 base B wt : Nat} {a : am_T} {f : Nat → Int64} {v0 : ls_V} (hi : i < 5) (hM : gm_is (mm i) a) (hn : am_n a ≤ 16) (hl : (am_ar a).length ≤ 64) (hb : ∀ x ∈ am_ar a, x.1 < 16384 ∧ x.2 < wt) (hnd : ∀ x ∈ am_ar a, x.1 / 1024 < am_n a ∧ x.1 % 16 < am_n a) (hq2 : q < 2 ∨ 22 ≤ q) (hq : q < 65) (hn0 : n0 < 2 ^ 31) (hbase : base + 16 ≤ n0) (he : r q = .inl (dA 1, n0, .inr (.inl f))) (hf : sp_in f base v0) (hB : sp_b B v0) (hBw : B + 1024 * wt ≤ 1152921504606846976) : gx_Ct l D dA yy_Ma_spread cc_Ma_spread 9 none 1 0 0 [.ref (ad (2 + 4 * i)), .ref (ad q), .int (nI base)] (gx_w ad (gm_h dA ad mm r)) (fun v w => v = none ∧ ∃ f2 v2, w = (gx_w ad (gm_h dA ad mm (va_up r q (.inl (dA 1, n0, .inr (.inl f2)))))) ∧ sp_in f2 base v2 ∧ (∀ t, t < base ∨ base + 16 ≤ t → f2 t = f t) ∧ ls_fix (am_ee (am_ar a)) v0 v2 ∧ sp_b (B + 1024 * wt) v2) := by
  refine gx_of (by decide) (Nat.le_of_ble_eq_true rfl) (fun K C _ _ => ?_)
  have loop : ∀ m k c v1 f0, k + m = am_n a → v1 = ls_it (am_ee (am_ar a)) k v0 → (c = 0 ∨ c = 1) → (c = 0 → ls_rd (am_ee (am_ar a)) v1 = v1) → sp_in f0 base v1 → sp_b (B + (k * 64 + 0) * wt) v1 → (∀ t, t < base ∨ base + 16 ≤ t → f0 t = f t) → gx_G K D 9 0 0 5 [(4, .int (nI k)), (3, .int (nI c)), (0, .ref (ad (2 + 4 * i))), (1, .ref (ad q)), (2, .int (nI base))] [] (gx_w ad (gm_h dA ad mm (va_up r q (.inl (dA 1, n0, .inr (.inl f0)))))) (gx_Z K D dA 0 0 (fun v w => v = none ∧ ∃ f2 v2, w = (gx_w ad (gm_h dA ad mm (va_up r q (.inl (dA 1, n0, .inr (.inl f2)))))) ∧ sp_in f2 base v2 ∧ (∀ t, t < base ∨ base + 16 ≤ t → f2 t = f t) ∧ ls_fix (am_ee (am_ar a)) v0 v2 ∧ sp_b (B + 1024 * wt) v2)) := by
    intro m
    induction m with
    | zero =>
      intro k c v1 f0 hk hv hc hcl hf hB0 ho
      refine gx_iload C 0 dd_Ma_spread_5 (kk := ?_)
      refine gx_aload_n C 2 dd_Ma_spread_7 (kk := ?_)
      refine gm_get C fd_Ma_34 hi dd_Ma_spread_8 (kk := ?_)
      refine gx_topi _ hM.1 ?_
      refine gx_icmp_ge C 113 dd_Ma_spread_11 (fun h11 => ?_) (fun h11 => absurd (nI_le (a := am_n a) (b := k) (by omega) (by omega)) h11)
      refine gx_vret C dd_Ma_spread_113 ?_
      subst hv
      exact ⟨rfl, f0, _, rfl, hf, ho, ls_it_fix (am_ee_in hnd) (by omega), sp_b_mono hB0 (Nat.add_le_add_left (Nat.mul_le_mul_right wt (by omega)) _)⟩
    | succ m ih =>
      intro k c v1 f0 hk hv hc hcl hf hB0 ho
      obtain ⟨vr, hvr⟩ : ∃ x, x = v1 := ⟨_, rfl⟩
      have inner : ∀ m j c v1 f1, j + m = (am_ar a).length → (c = 0 ∨ c = 1) → (c = 0 → v1 = vr) → v1 = ls_rd (am_ee ((am_ar a).take j)) vr → sp_in f1 base v1 → sp_b (B + (k * 64 + j) * wt) v1 → (∀ t, t < base ∨ base + 16 ≤ t → f1 t = f t) → gx_G K D 9 0 0 23 [(5, .int (nI j)), (3, .int (nI c)), (4, .int (nI k)), (0, .ref (ad (2 + 4 * i))), (1, .ref (ad q)), (2, .int (nI base))] [] (gx_w ad (gm_h dA ad mm (va_up r q (.inl (dA 1, n0, .inr (.inl f1)))))) (gx_Z K D dA 0 0 (fun v w => v = none ∧ ∃ f2 v2, w = (gx_w ad (gm_h dA ad mm (va_up r q (.inl (dA 1, n0, .inr (.inl f2)))))) ∧ sp_in f2 base v2 ∧ (∀ t, t < base ∨ base + 16 ≤ t → f2 t = f t) ∧ ls_fix (am_ee (am_ar a)) v0 v2 ∧ sp_b (B + 1024 * wt) v2)) := by
        intro m
        induction m with
        | zero =>
          intro j c v1 f1 hj hc1 hc0 hv1 hf1 hB1 ho1
          refine gx_iload C 0 dd_Ma_spread_23 (kk := ?_)
          refine gx_aload_n C 3 dd_Ma_spread_25 (kk := ?_)
          refine gm_get C fd_Ma_41 hi dd_Ma_spread_26 (kk := ?_)
          refine gx_topi _ hM.2.2.2.1 ?_
          refine gx_icmp_ge C 107 dd_Ma_spread_29 (fun h29 => ?_) (fun h29 => absurd (nI_le (a := (am_ar a).length) (b := j) (by omega) (by omega)) h29)
          refine gx_iinc C 2 (nI (k + 1)) _ dd_Ma_spread_107 (nI_1 k) (kk := ?_)
          refine gx_goto C 5 dd_Ma_spread_110 (kk := ?_)
          refine gx_loc [0, 2, 3, 4, 5] ?_
          rw [show j = (am_ar a).length by omega, List.take_length] at hv1
          exact ih (k + 1) c v1 f1 (by omega) (by rw [hv1, hvr, hv]; rfl) hc1 (fun h => by rw [← hc0 h] at hv1; exact hv1.symm) hf1 (sp_b_mono hB1 (Nat.add_le_add_left (Nat.mul_le_mul_right wt (by omega)) _)) ho1
        | succ m ihI =>
          intro j c v1 f1 hj hc1 hc0 hv1 hf1 hB1 ho1
          refine gx_iload C 0 dd_Ma_spread_23 (kk := ?_)
          refine gx_aload_n C 3 dd_Ma_spread_25 (kk := ?_)
          refine gm_get C fd_Ma_41 hi dd_Ma_spread_26 (kk := ?_)
          refine gx_topi _ hM.2.2.2.1 ?_
          refine gx_icmp_ge C 107 dd_Ma_spread_29 (fun h29 => absurd h29 (nI_ge (by omega) (by omega))) (fun h29 => ?_)
          obtain ⟨x, hx⟩ : ∃ x, (am_ar a)[j]? = some x := ⟨_, List.getElem?_eq_getElem (by omega)⟩
          obtain ⟨hx1, hx2⟩ := hM.2.2.2.2 _ _ hx
          obtain ⟨hxb, hxw⟩ := hb x (List.mem_of_getElem? hx)
          have hn1 := hnd x (List.mem_of_getElem? hx)
          have hst : (k * 64 + (j + 1)) * wt = (k * 64 + j) * wt + wt := by rw [← Nat.add_assoc, Nat.succ_mul]
          have LT : (am_f (v1 (x.1 / 1024)) + lN x.2 < am_f (v1 (x.1 % 16))) ↔ ls_lt (ls_ad (v1 (x.1 / 1024)) x.2) (v1 (x.1 % 16)) = true := am_f_lt (fun y hy => by have := hB1 _ _ hy; have := Nat.mul_le_mul_right wt (show k * 64 + j ≤ 1023 by omega); omega) (fun y hy => by have := hB1 _ _ hy; have := Nat.mul_le_mul_right wt (show k * 64 + j ≤ 1023 by omega); omega) (by omega)
          refine gx_aload_n C 4 dd_Ma_spread_32 (kk := ?_)
          refine gx_iload_n C 5 dd_Ma_spread_33 (kk := ?_)
          refine gx_aload_n C 3 dd_Ma_spread_34 (kk := ?_)
          refine gm_get C fd_Ma_27 (by assumption) dd_Ma_spread_35 (kk := ?_)
          refine gx_iload C 0 dd_Ma_spread_38 (kk := ?_)
          refine gm_ln_k C hi dd_Ma_spread_40 (by omega) (kk := ?_)
          refine gx_topi _ hx1 ?_
          refine gx_callS C (ct_WM_fromOf (gx_l K) D dA _ x.1 (by omega)) me_WM_fromOf ml_Ma_64 ms_WM_fromOf dd_Ma_spread_41 (kk := fun v w hq => ?_)
          obtain ⟨rfl, rfl⟩ := hq
          refine gx_iadd C dd_Ma_spread_44 (kk := ?_)
          refine gx_topi _ (nI_add _ _) ?_
          refine gz_laload C gm_us dd_Ma_spread_45 (by omega) (hn0 := hn0) (hq2 := hq2) (hq := hq) (kk := ?_)
          refine gx_topl _ (hf1 _ (by omega)) ?_
          refine gx_aload_n C 3 dd_Ma_spread_46 (kk := ?_)
          refine gm_get C fd_Ma_31 (by assumption) dd_Ma_spread_47 (kk := ?_)
          refine gx_iload C 0 dd_Ma_spread_50 (kk := ?_)
          refine gm_ln_g C hi dd_Ma_spread_52 (by omega) (kk := ?_)
          refine gx_topl _ hx2 ?_
          refine gx_ladd C dd_Ma_spread_53 (kk := ?_)
          refine gx_lstore C _ dd_Ma_spread_54 (kk := ?_)
          refine gx_iload_n C 6 dd_Ma_spread_56 (kk := ?_)
          refine gx_aload_n C 4 dd_Ma_spread_57 (kk := ?_)
          refine gm_get C fd_Ma_27 (by assumption) dd_Ma_spread_58 (kk := ?_)
          refine gx_iload C 1 dd_Ma_spread_61 (kk := ?_)
          refine gm_ln_k C hi dd_Ma_spread_63 (by omega) (kk := ?_)
          refine gx_topi _ hx1 ?_
          refine gx_callS C (ct_WM_toOf (gx_l K) D dA _ x.1 (by omega)) me_WM_toOf ml_Ma_67 ms_WM_toOf dd_Ma_spread_64 (kk := fun v w hq => ?_)
          obtain ⟨rfl, rfl⟩ := hq
          refine gx_iadd C dd_Ma_spread_67 (kk := ?_)
          refine gx_topi _ (nI_add _ _) ?_
          refine gx_istore C _ dd_Ma_spread_68 (kk := ?_)
          refine gx_aload_n C 5 dd_Ma_spread_70 (kk := ?_)
          refine gm_get C fd_Ma_27 (by assumption) dd_Ma_spread_71 (kk := ?_)
          refine gx_iload C 2 dd_Ma_spread_74 (kk := ?_)
          refine gm_ln_k C hi dd_Ma_spread_76 (by omega) (kk := ?_)
          refine gx_topi _ hx1 ?_
          refine gx_callS C (ct_WM_labelsOf (gx_l K) D dA _ x.1 (by omega)) me_WM_labelsOf ml_Ma_70 ms_WM_labelsOf dd_Ma_spread_77 (kk := fun v w hq => ?_)
          obtain ⟨rfl, rfl⟩ := hq
          refine gx_if_ne C 101 dd_Ma_spread_80 (fun h80 => ?_) (fun h80 => ?_)
          · refine gx_iinc C 2 (nI (j + 1)) _ dd_Ma_spread_101 (nI_1 j) (kk := ?_)
            refine gx_goto C 23 dd_Ma_spread_104 (kk := ?_)
            refine gx_loc [0, 3, 4, 5, 6, 7] ?_
            rw [show (0 : Int32) = nI 0 from rfl, nI_eq (by omega) (by decide)] at h80
            exact ihI (j + 1) c v1 f1 (by omega) hc1 hc0 (by rw [am_ee_s hx, if_neg h80]; exact hv1) hf1 (sp_b_mono hB1 (by rw [hst]; omega)) ho1
          · refine gx_lload C 1 dd_Ma_spread_83 (kk := ?_)
            refine gx_aload_n C 6 dd_Ma_spread_85 (kk := ?_)
            refine gx_iload C 0 dd_Ma_spread_86 (kk := ?_)
            refine gz_laload C gm_us dd_Ma_spread_88 (by omega) (hn0 := hn0) (hq2 := hq2) (hq := hq) (kk := ?_)
            refine gx_topl _ (hf1 _ (by omega)) ?_
            refine gx_lcmp C dd_Ma_spread_89 (kk := ?_)
            refine gx_if_ge C 101 dd_Ma_spread_90 (fun h90 => ?_) (fun h90 => ?_)
            · refine gx_iinc C 2 (nI (j + 1)) _ dd_Ma_spread_101 (nI_1 j) (kk := ?_)
              refine gx_goto C 23 dd_Ma_spread_104 (kk := ?_)
              refine gx_loc [0, 3, 4, 5, 6, 7] ?_
              rw [show (0 : Int32) = nI 0 from rfl, nI_eq (by omega) (by decide)] at h80
              rw [lc_ge, ← Int64.not_lt, LT] at h90
              have hrx : ls_rx v1 (am_xe x) = v1 := if_neg h90
              exact ihI (j + 1) c v1 f1 (by omega) hc1 hc0 (by rw [am_ee_s hx, if_pos h80, ls_rd_s, ← hv1, hrx]) hf1 (sp_b_mono hB1 (by rw [hst]; omega)) ho1
            · refine gx_aload_n C 6 dd_Ma_spread_93 (kk := ?_)
              refine gx_iload C 0 dd_Ma_spread_94 (kk := ?_)
              refine gx_lload C 1 dd_Ma_spread_96 (kk := ?_)
              refine gz_lastore C gm_us dd_Ma_spread_98 (by omega) (hn0 := hn0) (hq2 := hq2) (hq := hq) (kk := fun r2 hr2 => ?_)
              refine gx_iconst (v := nI 1) C dd_Ma_spread_99 (kk := ?_)
              refine gx_istore_n C _ dd_Ma_spread_100 (kk := ?_)
              refine gx_iinc C 3 (nI (j + 1)) _ dd_Ma_spread_101 (nI_1 j) (kk := ?_)
              refine gx_goto C 23 dd_Ma_spread_104 (kk := ?_)
              refine gx_loc [0, 1, 4, 5, 6, 7] ?_
              rw [show (0 : Int32) = nI 0 from rfl, nI_eq (by omega) (by decide)] at h80
              subst hr2
              rw [gm_uu]
              refine ihI (j + 1) 1 (ls_rx v1 (am_xe x)) _ (by omega) (Or.inr rfl) (fun h => by cases h) (by rw [am_ee_s hx, if_pos h80, ls_rd_s, ← hv1]) ?_ (sp_b_mono (sp_b_rx (w := wt) hB1 (Nat.le_of_lt hxw)) (by rw [hst]; omega)) ?_
              · intro s hs
                rw [lc_ge, ← Int64.not_lt, LT] at h90
                have h90 := Classical.not_not.mp h90
                have hrx : ls_rx v1 (am_xe x) = va_up v1 (x.1 % 16) (ls_ad (v1 (x.1 / 1024)) x.2) := if_pos h90
                rw [hrx]
                obtain ⟨y, hy⟩ : ∃ y, ls_ad (v1 (x.1 / 1024)) x.2 = some y := by
                  cases hz : ls_ad (v1 (x.1 / 1024)) x.2 with
                  | none => rw [hz] at h90; cases h90
                  | some y => exact ⟨y, rfl⟩
                by_cases hs1 : s = x.1 % 16
                · subst hs1
                  rw [pk_uLs, gm_us, am_f_ad hy]
                · rw [pk_uLn (by omega), gm_un hs1]
                  exact hf1 s hs
              · intro t ht
                rw [pk_uLn (by omega)]
                exact ho1 t ht
      refine gx_iload C 0 dd_Ma_spread_5 (kk := ?_)
      refine gx_aload_n C 2 dd_Ma_spread_7 (kk := ?_)
      refine gm_get C fd_Ma_34 hi dd_Ma_spread_8 (kk := ?_)
      refine gx_topi _ hM.1 ?_
      refine gx_icmp_ge C 113 dd_Ma_spread_11 (fun h11 => absurd h11 (nI_ge (by omega) (by omega))) (fun h11 => ?_)
      refine gx_iload_n C 1 dd_Ma_spread_14 (kk := ?_)
      refine gx_if_eq C 113 dd_Ma_spread_15 (fun h15 => ?_) (fun h15 => ?_)
      · refine gx_vret C dd_Ma_spread_113 ?_
        have hc2 : c = 0 := by
          rcases hc with h | h
          · exact h
          · subst h; exact absurd h15 (by decide)
        subst hv
        exact ⟨rfl, f0, _, rfl, hf, ho, ls_it_stop (hcl hc2), sp_b_mono hB0 (Nat.add_le_add_left (Nat.mul_le_mul_right wt (by omega)) _)⟩
      · refine gx_iconst (v := nI 0) C dd_Ma_spread_18 (kk := ?_)
        refine gx_istore_n C _ dd_Ma_spread_19 (kk := ?_)
        refine gx_iconst (v := nI 0) C dd_Ma_spread_20 (kk := ?_)
        refine gx_istore C _ dd_Ma_spread_21 (kk := ?_)
        exact inner (am_ar a).length 0 0 v1 f0 (by omega) (Or.inl rfl) (fun _ => hvr.symm) (by rw [hvr]; rfl) hf (by simpa using hB0) ho
  refine gx_iconst (v := nI 1) C dd_Ma_spread_0 (kk := ?_)
  refine gx_istore_n C _ dd_Ma_spread_1 (kk := ?_)
  refine gx_iconst (v := nI 0) C dd_Ma_spread_2 (kk := ?_)
  refine gx_istore C _ dd_Ma_spread_3 (kk := ?_)
  refine gx_wld ?_ (loop (am_n a) 0 1 v0 f (by omega) rfl (Or.inr rfl) (fun h => by cases h) hf (by simpa using hB) (fun _ _ => rfl))
  rw [← he, gm_ue]
