theorem de_lv_pre {l : List (Nat × Nat)} {s label : Nat} {v : ls_V} {c c2 : de_S} (h : de_lv l s label v c = some c2) : ∃ X, c2.1 = c.1 ++ X := by
  unfold de_lv at h
  split at h
  · cases h; exact ⟨[], by simp⟩
  · split at h
    · cases h
    · rename_i y hy
      split at h
      · cases h
        unfold de_fd at hy
        split at hy
        · cases hy; exact ⟨[], by simp⟩
        · split at hy
          · cases hy; exact ⟨_, rfl⟩
          · cases hy
      · cases h
theorem de_es_app {a : am_T} {T X : List ls_V} {s : Nat} (h : s ≤ T.length) : de_es a (T ++ X) s = de_es a T s := by
  funext q
  unfold de_es
  by_cases hq : q < s
  · rw [if_pos hq, if_pos hq, List.getElem?_append_left (by omega)]
  · rw [if_neg hq, if_neg hq]
theorem de_es_s {a : am_T} {T : List ls_V} {s : Nat} {t : ls_V} (ht : T[s]? = some t) : va_up (de_es a T s) s (ba_le t (am_en a) (am_n a)) = de_es a T (s + 1) := by
  funext q
  unfold de_es
  by_cases h : q = s
  · subst h
    rw [gm_us, if_pos (by omega), ht]
  · rw [gm_un h]
    by_cases h2 : q < s
    · rw [if_pos h2, if_pos (by omega)]
    · rw [if_neg h2, if_neg (by omega)]
theorem de_es_0 (a : am_T) (T : List ls_V) : de_es a T 0 = fun _ => none := by
  funext q
  unfold de_es
  rw [if_neg (by omega)]
def de_nx (l : List (Nat × Nat)) (m s : Nat) (o : Option de_S) : Option de_S := match o with
  | none => none
  | some c2 => de_ex l m (s + 1) c2
set_option maxRecDepth 100000 in
set_option maxHeartbeats 4000000 in
theorem ct_De_build (l : Launch) (D : va_G) (dA : Nat → ClassId) (ad : Nat → Nat) (mm : Nat → gm_V) (r : Nat → va_E) {ia im : Nat} {x1 x2 : Value} (him : im < 5) (hc26 : r 26 = .inr (3, [x1, x2, .ref (ad 27), .ref (ad 28)])) {fr fn : Nat → Int64} (hc27 : r 27 = .inl (dA 1, 256, .inr (.inl fr))) (hc28 : r 28 = .inl (dA 1, 16, .inr (.inl fn))) {a : am_T} (hia : ia < 5) (hna : ia ≠ im) (hMa : gm_is (mm ia) a) (hba : am_b 1000000001 a) : gx_Ct l D dA yy_De_build cc_De_build 6 (some .boolean) 3 0 0 [.ref (ad 26), .ref (ad (2 + 4 * ia)), .ref (ad (2 + 4 * im))] (gx_w ad (gm_h dA ad mm r)) (fun v w => ∃ M r2, w = gx_w ad (gm_h dA ad (va_up mm im M) r2) ∧ (∃ fr fn, r2 26 = .inr (3, [.ref (ad (2 + 4 * ia)), .ref (ad (2 + 4 * im)), .ref (ad 27), .ref (ad 28)]) ∧ r2 27 = .inl (dA 1, 256, .inr (.inl fr)) ∧ r2 28 = .inl (dA 1, 16, .inr (.inl fn))) ∧ (∀ k, k ≠ 26 → k ≠ 27 → k ≠ 28 → r2 k = r k) ∧ mb_Q v M (de_mk a)) := by
  refine gx_of (by decide) (Nat.le_of_ble_eq_true rfl) (fun K C _ _ => ?_)
  refine gx_aload_n C 0 dd_De_build_0 (kk := ?_)
  refine gx_aload_n C 1 dd_De_build_1 (kk := ?_)
  refine gz_put C fw_De_18 hc26 dd_De_build_2 (kk := fun r1 hr1 => ?_)
  have h26a : r1 26 = .inr (3, [.ref (ad (2 + 4 * ia)), x2, .ref (ad 27), .ref (ad 28)]) := by rw [hr1]; exact gm_us
  refine gx_aload_n C 0 dd_De_build_5 (kk := ?_)
  refine gx_aload_n C 2 dd_De_build_6 (kk := ?_)
  refine gz_put C fw_De_22 h26a dd_De_build_7 (kk := fun r3 hr3 => ?_)
  have h26 : r3 26 = .inr (3, [.ref (ad (2 + 4 * ia)), .ref (ad (2 + 4 * im)), .ref (ad 27), .ref (ad 28)]) := by rw [hr3]; exact gm_us
  have hrr : ∀ k, k ≠ 26 → r3 k = r k := fun k hk => by rw [hr3, gm_un hk, hr1, gm_un hk]
  have h27 : r3 27 = .inl (dA 1, 256, .inr (.inl fr)) := (hrr 27 (by decide)).trans hc27
  have h28 : r3 28 = .inl (dA 1, 16, .inr (.inl fn)) := (hrr 28 (by decide)).trans hc28
  refine gx_aload_n C 0 dd_De_build_10 (kk := ?_)
  refine gx_get C fd_De_22 (gm_r h26) dd_De_build_11 (kk := ?_)
  refine gx_iconst (v := nI 0) C dd_De_build_14 (kk := ?_)
  refine gx_callV C (ct_Ma_clear (gx_l K) D dA ad mm r3 (i := im) him 0) me_Ma_clear ml_De_25 mn_Ma_clear _ (gx_w_at (by omega) (gm_at (j := 0) him (by decide))) rfl dd_De_build_15 (kk := fun v w hq => ?_)
  obtain ⟨rfl, M0, rfl, hM0⟩ := hq
  cases hst : am_st a with
  | none =>
    have hqa := hMa.2.1
    rw [hst] at hqa
    refine gx_aload_n C 1 dd_De_build_18 (kk := ?_)
    refine gm_get C fd_De_31 hia dd_De_build_19 (kk := ?_)
    refine gx_topi (-1) (by rw [gm_un hna]; exact hqa.1) ?_
    refine gx_iconst (v := -1) C dd_De_build_22 (kk := ?_)
    refine gx_icmp_ne C 28 dd_De_build_23 (fun h23 => absurd rfl h23) (fun h23 => ?_)
    refine gx_iconst (v := nI 1) C dd_De_build_26 (kk := ?_)
    refine gx_zret C dd_De_build_27 (by first | rfl | exact fb_nar) ?_
    refine ⟨M0, r3, rfl, ⟨fr, fn, h26, h27, h28⟩, fun k h1 _ _ => hrr k h1, ?_⟩
    unfold de_mk
    rw [hst]
    exact ⟨rfl, hM0, am_b_0 _ (by decide), List.Pairwise.nil⟩
  | some x =>
    have hqa := hMa.2.1
    rw [hst] at hqa
    obtain ⟨hx1, hx2⟩ := hba.2.2.2.2 x hst
    obtain ⟨R, hR1⟩ : ∃ R, de_ex (am_ar a) 16 0 ([ba_v x.1], []) = R := ⟨_, rfl⟩
    have hI0 : de_iv M0 fr none (fun _ => none) ([], []) := ⟨⟨hM0, am_b_0 _ (by decide), List.Pairwise.nil⟩, fun k v h => absurd h (by simp), fun k v h => absurd h (by simp)⟩
    have fail : ∀ s M r2 fr fn, s ≤ 16 → none = R → (∀ k, k ≠ 27 → k ≠ 28 → r2 k = r3 k) → r2 27 = .inl (dA 1, 256, .inr (.inl fr)) → r2 28 = .inl (dA 1, 16, .inr (.inl fn)) → gx_G K D 6 0 0 68 [(4, .int (nI s)), (3, .int (nI 0)), (0, .ref (ad 26)), (1, .ref (ad (2 + 4 * ia))), (2, .ref (ad (2 + 4 * im)))] [] (gx_w ad (gm_h dA ad (va_up mm im M) r2)) (gx_Z K D dA 0 0 (fun v w => ∃ M r2, w = gx_w ad (gm_h dA ad (va_up mm im M) r2) ∧ (∃ fr fn, r2 26 = .inr (3, [.ref (ad (2 + 4 * ia)), .ref (ad (2 + 4 * im)), .ref (ad 27), .ref (ad 28)]) ∧ r2 27 = .inl (dA 1, 256, .inr (.inl fr)) ∧ r2 28 = .inl (dA 1, 16, .inr (.inl fn))) ∧ (∀ k, k ≠ 26 → k ≠ 27 → k ≠ 28 → r2 k = r k) ∧ mb_Q v M (de_mk a))) := by
      intro s M r2 fr fn hs16 hR k0 k27 k28
      refine gx_iload C 0 dd_De_build_68 (kk := ?_)
      refine gx_bipush (v := nI 16) C dd_De_build_70 (kk := ?_)
      refine gx_icmp_ge C 141 dd_De_build_72 (fun h72 => ?_) (fun h72 => ?_)
      · refine gx_iload_n C 1 dd_De_build_141 (kk := ?_)
        refine gx_zret C dd_De_build_142 (by first | rfl | exact fb_nar) ?_
        rw [← hR] at hR1
        refine ⟨M, r2, rfl, ⟨fr, fn, ((k0 26 (by decide) (by decide)).trans h26), k27, k28⟩, fun k h1 h2 h3 => (k0 k h2 h3).trans (hrr k h1), ?_⟩
        unfold de_mk
        rw [hst]
        dsimp only
        rw [hR1]
        rfl
      · refine gx_iload C 0 dd_De_build_75 (kk := ?_)
        refine gx_aload_n C 2 dd_De_build_77 (kk := ?_)
        refine gx_get C fd_De_22 (gm_r ((k0 26 (by decide) (by decide)).trans h26)) dd_De_build_78 (kk := ?_)
        refine gm_get C fd_De_55 him dd_De_build_81 (kk := ?_)
        refine gx_icmp_ge C 141 dd_De_build_84 (fun h84 => ?_) (fun h84 => ?_)
        · refine gx_iload_n C 1 dd_De_build_141 (kk := ?_)
          refine gx_zret C dd_De_build_142 (by first | rfl | exact fb_nar) ?_
          rw [← hR] at hR1
          refine ⟨M, r2, rfl, ⟨fr, fn, ((k0 26 (by decide) (by decide)).trans h26), k27, k28⟩, fun k h1 h2 h3 => (k0 k h2 h3).trans (hrr k h1), ?_⟩
          unfold de_mk
          rw [hst]
          dsimp only
          rw [hR1]
          rfl
        · refine gx_iload_n C 1 dd_De_build_87 (kk := ?_)
          refine gx_if_eq C 141 dd_De_build_88 (fun h88 => ?_) (fun h88 => absurd rfl h88)
          refine gx_iload_n C 1 dd_De_build_141 (kk := ?_)
          refine gx_zret C dd_De_build_142 (by first | rfl | exact fb_nar) ?_
          rw [← hR] at hR1
          refine ⟨M, r2, rfl, ⟨fr, fn, ((k0 26 (by decide) (by decide)).trans h26), k27, k28⟩, fun k h1 h2 h3 => (k0 k h2 h3).trans (hrr k h1), ?_⟩
          unfold de_mk
          rw [hst]
          dsimp only
          rw [hR1]
          rfl
    have failI : ∀ s lb M r2 fr fn, s < 16 → none = R → (∀ k, k ≠ 27 → k ≠ 28 → r2 k = r3 k) → r2 27 = .inl (dA 1, 256, .inr (.inl fr)) → r2 28 = .inl (dA 1, 16, .inr (.inl fn)) → gx_G K D 6 0 0 109 [(5, .int (nI lb)), (3, .int (nI 0)), (4, .int (nI s)), (0, .ref (ad 26)), (1, .ref (ad (2 + 4 * ia))), (2, .ref (ad (2 + 4 * im)))] [] (gx_w ad (gm_h dA ad (va_up mm im M) r2)) (gx_Z K D dA 0 0 (fun v w => ∃ M r2, w = gx_w ad (gm_h dA ad (va_up mm im M) r2) ∧ (∃ fr fn, r2 26 = .inr (3, [.ref (ad (2 + 4 * ia)), .ref (ad (2 + 4 * im)), .ref (ad 27), .ref (ad 28)]) ∧ r2 27 = .inl (dA 1, 256, .inr (.inl fr)) ∧ r2 28 = .inl (dA 1, 16, .inr (.inl fn))) ∧ (∀ k, k ≠ 26 → k ≠ 27 → k ≠ 28 → r2 k = r k) ∧ mb_Q v M (de_mk a))) := by
      intro s lb M r2 fr fn hs16 hR k0 k27 k28
      refine gx_iload C 0 dd_De_build_109 (kk := ?_)
      refine gx_bipush (v := nI 7) C dd_De_build_111 (kk := ?_)
      refine gx_icmp_gt C 135 dd_De_build_113 (fun h113 => ?_) (fun h113 => ?_)
      · refine gx_iinc C 2 (nI (s + 1)) _ dd_De_build_135 (nI_1 s) (kk := ?_)
        refine gx_goto C 68 dd_De_build_138 (kk := ?_)
        refine gx_loc [0, 2, 3, 4, 5] ?_
        exact fail (s + 1) M r2 fr fn (by omega) hR k0 k27 k28
      · refine gx_iload_n C 1 dd_De_build_116 (kk := ?_)
        refine gx_if_eq C 135 dd_De_build_117 (fun h117 => ?_) (fun h117 => absurd rfl h117)
        refine gx_iinc C 2 (nI (s + 1)) _ dd_De_build_135 (nI_1 s) (kk := ?_)
        refine gx_goto C 68 dd_De_build_138 (kk := ?_)
        refine gx_loc [0, 2, 3, 4, 5] ?_
        exact fail (s + 1) M r2 fr fn (by omega) hR k0 k27 k28
    have loop : ∀ m s c M r2 fr fn, s + m = 16 → s ≤ c.1.length → de_iv M fr (some (0, x.2)) (de_es a c.1 s) c → de_ex (am_ar a) m s c = R → (∀ k, k ≠ 27 → k ≠ 28 → r2 k = r3 k) → r2 27 = .inl (dA 1, 256, .inr (.inl fr)) → r2 28 = .inl (dA 1, 16, .inr (.inl fn)) → gx_G K D 6 0 0 68 [(4, .int (nI s)), (3, .int (nI 1)), (0, .ref (ad 26)), (1, .ref (ad (2 + 4 * ia))), (2, .ref (ad (2 + 4 * im)))] [] (gx_w ad (gm_h dA ad (va_up mm im M) r2)) (gx_Z K D dA 0 0 (fun v w => ∃ M r2, w = gx_w ad (gm_h dA ad (va_up mm im M) r2) ∧ (∃ fr fn, r2 26 = .inr (3, [.ref (ad (2 + 4 * ia)), .ref (ad (2 + 4 * im)), .ref (ad 27), .ref (ad 28)]) ∧ r2 27 = .inl (dA 1, 256, .inr (.inl fr)) ∧ r2 28 = .inl (dA 1, 16, .inr (.inl fn))) ∧ (∀ k, k ≠ 26 → k ≠ 27 → k ≠ 28 → r2 k = r k) ∧ mb_Q v M (de_mk a))) := by
      intro m
      induction m with
      | zero =>
        intro s c M r2 fr fn hm hsl0 hI hR k0 k27 k28
        refine gx_iload C 0 dd_De_build_68 (kk := ?_)
        refine gx_bipush (v := nI 16) C dd_De_build_70 (kk := ?_)
        refine gx_icmp_ge C 141 dd_De_build_72 (fun h72 => ?_) (fun h72 => absurd (nI_le (a := 16) (b := s) (by omega) (by omega)) h72)
        refine gx_iload_n C 1 dd_De_build_141 (kk := ?_)
        refine gx_zret C dd_De_build_142 (by first | rfl | exact fb_nar) ?_
        rw [show de_ex (am_ar a) 0 s c = some c from rfl] at hR
        rw [← hR] at hR1
        refine ⟨M, r2, rfl, ⟨fr, fn, ((k0 26 (by decide) (by decide)).trans h26), k27, k28⟩, fun k h1 h2 h3 => (k0 k h2 h3).trans (hrr k h1), ?_⟩
        unfold de_mk
        rw [hst]
        dsimp only
        rw [hR1]
        have hc : s = c.1.length := by have : c.1.length ≤ 16 := hI.1.2.1.1; omega
        subst hc
        exact ⟨rfl, hI.1⟩
      | succ m ih =>
        intro s c M r2 fr fn hm hsl0 hI hR k0 k27 k28
        refine gx_iload C 0 dd_De_build_68 (kk := ?_)
        refine gx_bipush (v := nI 16) C dd_De_build_70 (kk := ?_)
        refine gx_icmp_ge C 141 dd_De_build_72 (fun h72 => absurd h72 (nI_ge (by omega) (by omega))) (fun h72 => ?_)
        refine gx_iload C 0 dd_De_build_75 (kk := ?_)
        refine gx_aload_n C 2 dd_De_build_77 (kk := ?_)
        refine gx_get C fd_De_22 (gm_r ((k0 26 (by decide) (by decide)).trans h26)) dd_De_build_78 (kk := ?_)
        refine gm_get C fd_De_55 him dd_De_build_81 (kk := ?_)
        refine gx_topi (nI c.1.length) (by rw [gm_us]; exact hI.1.1.1) ?_
        refine gx_icmp_ge C 141 dd_De_build_84 (fun h84 => ?_) (fun h84 => ?_)
        · refine gx_iload_n C 1 dd_De_build_141 (kk := ?_)
          refine gx_zret C dd_De_build_142 (by first | rfl | exact fb_nar) ?_
          rw [nI_leI (by have : c.1.length ≤ 16 := hI.1.2.1.1; omega) (by omega)] at h84
          have hno : c.1[s]? = none := List.getElem?_eq_none (by omega)
          rw [show de_ex (am_ar a) (m + 1) s c = some c by unfold de_ex; rw [hno]] at hR
          rw [← hR] at hR1
          refine ⟨M, r2, rfl, ⟨fr, fn, ((k0 26 (by decide) (by decide)).trans h26), k27, k28⟩, fun k h1 h2 h3 => (k0 k h2 h3).trans (hrr k h1), ?_⟩
          unfold de_mk
          rw [hst]
          dsimp only
          rw [hR1]
          have hc : s = c.1.length := by have : c.1.length ≤ 16 := hI.1.2.1.1; omega
          subst hc
          exact ⟨rfl, hI.1⟩
        · refine gx_iload_n C 1 dd_De_build_87 (kk := ?_)
          refine gx_if_eq C 141 dd_De_build_88 (fun h88 => absurd h88 (by decide)) (fun h88 => ?_)
          have hsl : s < c.1.length := by
            rw [nI_leI (by have : c.1.length ≤ 16 := hI.1.2.1.1; omega) (by omega)] at h84
            omega
          obtain ⟨t, htT⟩ : ∃ t, c.1[s]? = some t := ⟨_, List.getElem?_eq_getElem hsl⟩
          have inner : ∀ m0 lb c M r2 fr fn, lb + m0 = 8 → c.1[s]? = some t → de_iv M fr (some (0, x.2)) (de_es a c.1 (s + 1)) c → de_nx (am_ar a) m s (de_run (am_ar a) s t m0 lb c) = R → (∀ k, k ≠ 27 → k ≠ 28 → r2 k = r3 k) → r2 27 = .inl (dA 1, 256, .inr (.inl fr)) → r2 28 = .inl (dA 1, 16, .inr (.inl fn)) → gx_G K D 6 0 0 109 [(5, .int (nI lb)), (3, .int (nI 1)), (4, .int (nI s)), (0, .ref (ad 26)), (1, .ref (ad (2 + 4 * ia))), (2, .ref (ad (2 + 4 * im)))] [] (gx_w ad (gm_h dA ad (va_up mm im M) r2)) (gx_Z K D dA 0 0 (fun v w => ∃ M r2, w = gx_w ad (gm_h dA ad (va_up mm im M) r2) ∧ (∃ fr fn, r2 26 = .inr (3, [.ref (ad (2 + 4 * ia)), .ref (ad (2 + 4 * im)), .ref (ad 27), .ref (ad 28)]) ∧ r2 27 = .inl (dA 1, 256, .inr (.inl fr)) ∧ r2 28 = .inl (dA 1, 16, .inr (.inl fn))) ∧ (∀ k, k ≠ 26 → k ≠ 27 → k ≠ 28 → r2 k = r k) ∧ mb_Q v M (de_mk a))) := by
            intro m0
            induction m0 with
            | zero =>
              intro lb c M r2 fr fn hm0 htT hI hR k0 k27 k28
              refine gx_iload C 0 dd_De_build_109 (kk := ?_)
              refine gx_bipush (v := nI 7) C dd_De_build_111 (kk := ?_)
              refine gx_icmp_gt C 135 dd_De_build_113 (fun h113 => ?_) (fun h113 => absurd ((nI_ltI (a := 7) (b := lb) (by decide) (by omega)).mpr (by omega)) h113)
              refine gx_iinc C 2 (nI (s + 1)) _ dd_De_build_135 (nI_1 s) (kk := ?_)
              refine gx_goto C 68 dd_De_build_138 (kk := ?_)
              refine gx_loc [0, 2, 3, 4, 5] ?_
              have hsl2 := (List.getElem?_eq_some_iff.mp htT).1
              exact ih (s + 1) c M r2 fr fn (by omega) (by omega) hI hR k0 k27 k28
            | succ mi ihI =>
              intro lb c M r2 fr fn hm0 htT hI hR k0 k27 k28
              refine gx_iload C 0 dd_De_build_109 (kk := ?_)
              refine gx_bipush (v := nI 7) C dd_De_build_111 (kk := ?_)
              refine gx_icmp_gt C 135 dd_De_build_113 (fun h113 => absurd h113 (by rw [nI_ltI (by decide) (by omega)]; omega)) (fun h113 => ?_)
              refine gx_iload_n C 1 dd_De_build_116 (kk := ?_)
              refine gx_if_eq C 135 dd_De_build_117 (fun h117 => absurd h117 (by decide)) (fun h117 => ?_)
              refine gx_aload_n C 3 dd_De_build_120 (kk := ?_)
              refine gx_iload C 2 dd_De_build_121 (kk := ?_)
              refine gx_iload C 0 dd_De_build_123 (kk := ?_)
              refine gx_callV C (ct_De_leave (gx_l K) D dA ad (va_up mm im M) r2 (s := s) (label := lb) (t := t) him ((k0 26 (by decide) (by decide)).trans h26) k27 k28 hia (by rw [gm_un hna]; exact hMa) hba (by rw [gm_us]; exact hI) htT (by omega)) me_De_leave ml_De_65 mn_De_leave _ (gx_w_at (by decide) (gm_r ((k0 26 (by decide) (by decide)).trans h26))) rfl dd_De_build_125 (kk := fun v w hq => ?_)
              obtain ⟨M2, r4, fr2, fn2, rfl, ⟨j0, j27, j28, hq⟩⟩ := hq
              rw [gm_uu]
              have j1 : ∀ k, k ≠ 27 → k ≠ 28 → r4 k = r3 k := fun k h1 h2 => (j0 k h1 h2).trans (k0 k h1 h2)
              rcases hbr : de_lv (am_ar a) s lb t c with _ | c2
              · rw [hbr] at hq
                have hq : v = some (.int (nI 0)) := hq
                subst hq
                rw [show de_run (am_ar a) s t (mi + 1) lb c = (match de_lv (am_ar a) s lb t c with | none => none | some c2 => de_run (am_ar a) s t mi (lb + 1) c2) from rfl, hbr] at hR
                refine gx_istore_n C _ dd_De_build_128 (kk := ?_)
                refine gx_iinc C 1 (nI (lb + 1)) _ dd_De_build_129 (nI_1 lb) (kk := ?_)
                refine gx_goto C 109 dd_De_build_132 (kk := ?_)
                exact failI s (lb + 1) M2 r4 fr2 fn2 (by omega) hR j1 j27 j28
              · rw [hbr] at hq
                obtain ⟨hv, hI2⟩ := hq
                subst hv
                rw [show de_run (am_ar a) s t (mi + 1) lb c = (match de_lv (am_ar a) s lb t c with | none => none | some c2 => de_run (am_ar a) s t mi (lb + 1) c2) from rfl, hbr] at hR
                obtain ⟨X, hX⟩ := de_lv_pre hbr
                refine gx_istore_n C _ dd_De_build_128 (kk := ?_)
                refine gx_iinc C 1 (nI (lb + 1)) _ dd_De_build_129 (nI_1 lb) (kk := ?_)
                refine gx_goto C 109 dd_De_build_132 (kk := ?_)
                have hsl2 := (List.getElem?_eq_some_iff.mp htT).1
                exact ihI (lb + 1) c2 M2 r4 fr2 fn2 (by omega) (by rw [hX, List.getElem?_append_left hsl2]; exact htT) (by rw [hX, de_es_app (by omega)]; exact hI2) hR j1 j27 j28
          refine gx_aload_n C 2 dd_De_build_91 (kk := ?_)
          refine gx_get C fd_De_22 (gm_r ((k0 26 (by decide) (by decide)).trans h26)) dd_De_build_92 (kk := ?_)
          refine gx_iload C 0 dd_De_build_95 (kk := ?_)
          refine gx_aload_n C 2 dd_De_build_97 (kk := ?_)
          refine gx_iload C 0 dd_De_build_98 (kk := ?_)
          refine gx_callV C (ct_De_leastEnd (gx_l K) D dA ad (va_up mm im M) r2 (s := s) (t := t) ((k0 26 (by decide) (by decide)).trans h26) k27 k28 hia (by rw [gm_un hna]; exact hMa) hba (by omega) (hI.2.1 s t htT) (sp_b_mono (hI.2.2 s t htT) (by omega))) me_De_leastEnd ml_De_58 mn_De_leastEnd _ (gx_w_at (by decide) (gm_r ((k0 26 (by decide) (by decide)).trans h26))) rfl dd_De_build_100 (kk := fun v w hq => ?_)
          obtain ⟨rfl, rfl⟩ := hq
          refine gx_callV C (ct_Ma_setEndUnlessFar (gx_l K) D dA ad (va_up mm im M) r2 (q := s) him (by omega) _) me_Ma_setEndUnlessFar ml_De_62 mn_Ma_setEndUnlessFar _ (gx_w_at (by omega) (gm_at (j := 0) him (by decide))) rfl dd_De_build_103 (kk := fun v w hq => ?_)
          obtain ⟨rfl, rfl⟩ := hq
          rw [gm_us, gm_uu]
          have hle : ∀ e, ba_le t (am_en a) (am_n a) = some e → e < 35184372088832 := fun e h => Nat.lt_of_lt_of_le (ba_le_b (B := 17592186044416) (sp_b_mono (hI.2.2 s t htT) (by omega)) (fun q e h => Nat.lt_trans (hba.2.2.2.1 q e h) (by decide)) _ e h) (by decide)
          have hI3 := mb_end (s := s) hI.1 (fe_e (o := ba_le t (am_en a) (am_n a)) (fun e h => Nat.lt_trans (hle e h) (by decide))) hle
          rw [de_es_s htT] at hI3
          replace hI := And.intro hI3 hI.2
          refine gx_iconst (v := nI 1) C dd_De_build_106 (kk := ?_)
          refine gx_istore C _ dd_De_build_107 (kk := ?_)
          refine gx_loc [0, 2, 1, 3, 4, 5] ?_
          have hR2 : de_nx (am_ar a) m s (de_run (am_ar a) s t 7 1 c) = R := by
            rw [← hR]
            show _ = (match c.1[s]? with | none => some c | some v => (match de_run (am_ar a) s v 7 1 c with | none => none | some c2 => de_ex (am_ar a) m (s + 1) c2))
            rw [htT]
            rfl
          exact inner 7 1 c _ r2 fr fn (by omega) htT hI hR2 k0 k27 k28
    refine gx_aload_n C 1 dd_De_build_18 (kk := ?_)
    refine gm_get C fd_De_31 hia dd_De_build_19 (kk := ?_)
    refine gx_topi (nI x.1) (by rw [gm_un hna]; exact hqa.1) ?_
    refine gx_iconst (v := -1) C dd_De_build_22 (kk := ?_)
    refine gx_icmp_ne C 28 dd_De_build_23 (fun h23 => ?_) (fun h23 => absurd h23 (nI_m1 (by omega)))
    refine gx_aload_n C 0 dd_De_build_28 (kk := ?_)
    refine gx_get C fd_De_15 (gm_r h26) dd_De_build_29 (kk := ?_)
    refine gx_ldc2 C dd_De_build_32 kc_De_35 (kk := ?_)
    refine gx_callS C (ct_JA_fill (gx_l K) D dA ad (gm_h dA ad (va_up mm im M0) r3) 28 16 fn 1152921504606846976 (by decide) (by decide) (gm_r h28)) me_JA_fill ml_De_37 ms_JA_fill dd_De_build_35 (kk := fun v w hq => ?_)
    obtain ⟨rfl, rfl⟩ := hq
    rw [gm_upr (by decide)]
    refine gx_aload_n C 0 dd_De_build_38 (kk := ?_)
    refine gx_get C fd_De_15 (gm_r ((gm_un (by decide)).trans h26)) dd_De_build_39 (kk := ?_)
    refine gx_aload_n C 1 dd_De_build_42 (kk := ?_)
    refine gm_get C fd_De_31 hia dd_De_build_43 (kk := ?_)
    refine gx_topi (nI x.1) (by rw [gm_un hna]; exact hqa.1) ?_
    refine gx_lconst (v := lN 0) C dd_De_build_46 (kk := ?_)
    refine gz_lastore C gm_us dd_De_build_47 (by omega) (kk := fun r5 hr5 => ?_)
    rw [gm_uu] at hr5
    subst hr5
    refine gx_aload_n C 0 dd_De_build_48 (kk := ?_)
    refine gx_get C fd_De_22 (gm_r ((gm_un (by decide)).trans h26)) dd_De_build_49 (kk := ?_)
    refine gx_aload_n C 0 dd_De_build_52 (kk := ?_)
    refine gx_callV C (ct_De_findNext (gx_l K) D dA ad (va_up mm im M0) _ (u := ba_v x.1) (c := ([], [])) (st := none) (en := fun _ => none) him ((gm_un (by decide)).trans h26) ((gm_un (by decide)).trans h27) gm_us (by rw [gm_us]; exact hI0) (fun q hq => by have := ba_sp hx1 fn q hq; rw [Nat.zero_add] at this; exact this) (sp_b_mono (ba_vb _) (by decide))) me_De_findNext ml_De_43 mn_De_findNext _ (gx_w_at (by decide) (gm_r ((gm_un (by decide)).trans h26))) rfl dd_De_build_53 (kk := fun v w hq => ?_)
    obtain ⟨M1, fr1, rfl, hq⟩ := hq
    obtain ⟨hv, hq3, -⟩ : v = some (.int (nI 0)) ∧ de_iv M1 fr1 none (fun _ => none) ([ba_v x.1], []) ∧ True := ⟨hq.1, hq.2.1, trivial⟩
    subst hv
    refine gx_aload_n C 1 dd_De_build_56 (kk := ?_)
    refine gm_get C fd_De_47 hia dd_De_build_57 (kk := ?_)
    refine gx_topl (lN x.2) (by rw [gm_un hna, gm_un hna]; exact hqa.2) ?_
    refine gx_callV C (ct_Ma_setStart (gx_l K) D dA ad _ _ (i := im) him (nI 0) (lN x.2)) me_Ma_setStart ml_De_51 mn_Ma_setStart _ (gx_w_at (by omega) (gm_at (j := 0) him (by decide))) rfl dd_De_build_60 (kk := fun v w hq2 => ?_)
    obtain ⟨rfl, rfl⟩ := hq2
    rw [gm_us, gm_uu, gm_uu]
    refine gx_iconst (v := nI 1) C dd_De_build_63 (kk := ?_)
    refine gx_istore_n C _ dd_De_build_64 (kk := ?_)
    refine gx_iconst (v := nI 0) C dd_De_build_65 (kk := ?_)
    refine gx_istore C _ dd_De_build_66 (kk := ?_)
    refine loop 16 0 ([ba_v x.1], []) _ _ fr1 _ (by omega) (Nat.zero_le _) ?_ hR1 (fun k h1 h2 => (gm_un h1).trans (gm_un h2)) gm_us ((gm_un (by decide)).trans gm_us)
    rw [de_es_0]
    exact ⟨⟨⟨hq3.1.1.1, ⟨rfl, rfl⟩, hq3.1.1.2.2⟩, ⟨hq3.1.2.1.1, hq3.1.2.1.2.1, hq3.1.2.1.2.2.1, hq3.1.2.1.2.2.2.1, fun z hz => (Option.some.inj hz) ▸ ⟨by show 0 < 16; decide, by show x.2 < 35184372088832; omega⟩⟩, hq3.1.2.2⟩, hq3.2⟩
