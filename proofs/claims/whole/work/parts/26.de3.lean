theorem de_su_b {l : List (Nat × Nat)} {v : ls_V} {label B W : Nat} (hv : sp_b B v) (hl : ∀ x ∈ l, x.2 < W) : sp_b (B + W) (de_su l v label).1 ∧ (∀ a, (de_su l v label).2 = some a → a < B + W) ∧ ∀ q, ls_le (de_su l v label).2 ((de_su l v label).1 q) := by
  rw [← de_sk_e]
  exact de_sk_b hv hl _ (Nat.le_refl _)
theorem de_row_b {u : ls_V} {w B : Nat} (h : sp_b B u) : sp_b B (de_row u w) := by
  intro q x hx
  unfold de_row at hx
  obtain ⟨d, hd, rfl⟩ := Option.map_eq_some_iff.mp hx
  have := h q d hd
  omega
theorem de_lv_0 {l : List (Nat × Nat)} {s label : Nat} {v : ls_V} {c : de_S} (h : (de_su l v label).2 = none) : de_lv l s label v c = some c := by
  unfold de_lv
  rw [h]
theorem de_lv_n {l : List (Nat × Nat)} {s label w : Nat} {v : ls_V} {c : de_S} (h : (de_su l v label).2 = some w) (hf : de_fd (de_row (de_su l v label).1 w) c.1 = none) : de_lv l s label v c = none := by
  unfold de_lv
  rw [h]
  dsimp only
  rw [hf]
theorem de_lv_s {l : List (Nat × Nat)} {s label w : Nat} {v : ls_V} {c : de_S} {y : Nat × List ls_V} (h : (de_su l v label).2 = some w) (hf : de_fd (de_row (de_su l v label).1 w) c.1 = some y) : de_lv l s label v c = if am_rm (s * 1024 + (8 * label + label) * 16 + y.1) c.2 = true then some (y.2, am_in (s * 1024 + (8 * label + label) * 16 + y.1) w c.2) else none := by
  unfold de_lv
  rw [h]
  dsimp only
  rw [hf]
set_option maxRecDepth 100000 in
set_option maxHeartbeats 4000000 in
theorem ct_De_leave (l : Launch) (D : va_G) (dA : Nat → ClassId) (ad : Nat → Nat) (mm : Nat → gm_V) (r : Nat → va_E) {ia im s label : Nat} (him : im < 5) (hc26 : r 26 = .inr (3, [.ref (ad (2 + 4 * ia)), .ref (ad (2 + 4 * im)), .ref (ad 27), .ref (ad 28)])) {fr fn : Nat → Int64} (hc27 : r 27 = .inl (dA 1, 256, .inr (.inl fr))) (hc28 : r 28 = .inl (dA 1, 16, .inr (.inl fn))) {a : am_T} (hia : ia < 5) (hMa : gm_is (mm ia) a) (hba : am_b 1000000001 a) {st : Option (Nat × Nat)} {en : Nat → Option Nat} {c : de_S} {t : ls_V} (hI : de_iv (mm im) fr st en c) (htT : c.1[s]? = some t) (hlab : label < 8) : gx_Ct l D dA yy_De_leave cc_De_leave 6 (some .boolean) 2 0 0 [.ref (ad 26), .int (nI s), .int (nI label)] (gx_w ad (gm_h dA ad mm r)) (fun v w => ∃ M r2 fr2 fn2, w = gx_w ad (gm_h dA ad (va_up mm im M) r2) ∧ (∀ k, k ≠ 27 → k ≠ 28 → r2 k = r k) ∧ r2 27 = .inl (dA 1, 256, .inr (.inl fr2)) ∧ r2 28 = .inl (dA 1, 16, .inr (.inl fn2)) ∧ de_bq v M fr2 st en (de_lv (am_ar a) s label t c)) := by
  refine gx_of (by decide) (Nat.le_of_ble_eq_true rfl) (fun K C _ _ => ?_)
  have hn16 : c.1.length ≤ 16 := hI.1.2.1.1
  have hsl := (List.getElem?_eq_some_iff.mp htT).1
  have hs : s < 16 := by omega
  obtain ⟨sb1, sb2, sb3⟩ := de_su_b (l := am_ar a) (label := label) (hI.2.2 s t htT) (fun x hx => (hba.2.2.1 x hx).2)
  refine gx_aload_n C 0 dd_De_leave_0 (kk := ?_)
  refine gx_iload_n C 1 dd_De_leave_1 (kk := ?_)
  refine gx_iload_n C 2 dd_De_leave_2 (kk := ?_)
  refine gx_callV C (ct_De_sumUp (gx_l K) D dA ad mm r (s := s) (label := label) (B := 1 + s * 1000000001) (t := t) hc26 hc27 hc28 hia hMa hba hs hlab (hI.2.1 s t htT) (hI.2.2 s t htT) (by omega)) me_De_sumUp ml_De_78 mn_De_sumUp _ (gx_w_at (by decide) (gm_r hc26)) rfl dd_De_leave_3 (kk := fun v w hq => ?_)
  obtain ⟨fn1, rfl, rfl, hf1⟩ := hq
  rcases hw : (de_su (am_ar a) t label).2 with _ | w0
  · refine gx_lstore_n C _ dd_De_leave_6 (kk := ?_)
    refine gx_lload_n C 0 dd_De_leave_7 (kk := ?_)
    refine gx_ldc2 C dd_De_leave_8 kc_De_35 (kk := ?_)
    refine gx_lcmp C dd_De_leave_11 (kk := ?_)
    refine gx_if_lt C 17 dd_De_leave_12 (fun h12 => absurd h12 (by rw [lc_lt]; exact Int64.lt_irrefl)) (fun h12 => ?_)
    refine gx_iconst (v := nI 1) C dd_De_leave_15 (kk := ?_)
    refine gx_zret C dd_De_leave_16 (by first | rfl | exact fb_nar) ?_
    refine ⟨mm im, _, fr, fn1, by rw [gm_ue], ⟨fun k _ h2 => gm_un h2, ((gm_un (by decide)).trans hc27), gm_us, ?_⟩⟩
    rw [de_lv_0 hw]
    exact ⟨rfl, hI⟩
  · have hwb := sb2 w0 hw
    have loop : ∀ m q fn1, q + m = 16 → (∀ k, k < 16 → fn1 k = am_f (if k < q then de_row (de_su (am_ar a) t label).1 w0 k else (de_su (am_ar a) t label).1 k)) → gx_G K D 6 0 0 20 [(5, .int (nI q)), (3, .long (lN w0)), (0, .ref (ad 26)), (1, .int (nI s)), (2, .int (nI label))] [] (gx_w ad (gm_h dA ad mm (va_up r 28 (.inl (dA 1, 16, .inr (.inl fn1)))))) (gx_Z K D dA 0 0 (fun v w => ∃ M r2 fr2 fn2, w = gx_w ad (gm_h dA ad (va_up mm im M) r2) ∧ (∀ k, k ≠ 27 → k ≠ 28 → r2 k = r k) ∧ r2 27 = .inl (dA 1, 256, .inr (.inl fr2)) ∧ r2 28 = .inl (dA 1, 16, .inr (.inl fn2)) ∧ de_bq v M fr2 st en (de_lv (am_ar a) s label t c))) := by
      intro m
      induction m with
      | zero =>
        intro q fn1 hm hf1
        refine gx_iload C 0 dd_De_leave_20 (kk := ?_)
        refine gx_bipush (v := nI 16) C dd_De_leave_22 (kk := ?_)
        refine gx_icmp_ge C 69 dd_De_leave_24 (fun h24 => ?_) (fun h24 => absurd (nI_le (a := 16) (b := q) (by omega) (by omega)) h24)
        refine gx_aload_n C 2 dd_De_leave_69 (kk := ?_)
        refine gx_callV C (ct_De_findNext (gx_l K) D dA ad mm (va_up r 28 (.inl (dA 1, 16, .inr (.inl fn1)))) (u := de_row (de_su (am_ar a) t label).1 w0) him ((gm_un (by decide)).trans hc26) ((gm_un (by decide)).trans hc27) gm_us hI (fun k hk => (hf1 k hk).trans (by rw [if_pos (by omega)])) (sp_b_mono (de_row_b sb1) (by omega))) me_De_findNext ml_De_43 mn_De_findNext _ (gx_w_at (by decide) (gm_r ((gm_un (by decide)).trans hc26))) rfl dd_De_leave_70 (kk := fun v w hq => ?_)
        obtain ⟨M1, fr1, rfl, hq⟩ := hq
        rcases hfd : de_fd (de_row (de_su (am_ar a) t label).1 w0) c.1 with _ | y
        · rw [hfd] at hq
          have hq : v = some (.int (-1)) := hq
          subst hq
          refine gx_istore C _ dd_De_leave_73 (kk := ?_)
          refine gx_iload C 0 dd_De_leave_75 (kk := ?_)
          refine gx_iconst (v := -1) C dd_De_leave_77 (kk := ?_)
          refine gx_icmp_eq C 107 dd_De_leave_78 (fun h78 => ?_) (fun h78 => absurd rfl h78)
          refine gx_iconst (v := nI 0) C dd_De_leave_107 (kk := ?_)
          refine gx_zret C dd_De_leave_108 (by first | rfl | exact fb_nar) ?_
          refine ⟨M1, _, fr1, fn1, ?_, ⟨fun k h1 h2 => (gm_un h1).trans (gm_un h2), gm_us, (gm_un (by decide)).trans gm_us, ?_⟩⟩
          · rfl
          · rw [de_lv_n hw hfd]
            rfl
        · rw [hfd] at hq
          obtain ⟨hv, hq, hy⟩ := hq
          subst hv
          refine gx_istore C _ dd_De_leave_73 (kk := ?_)
          refine gx_iload C 0 dd_De_leave_75 (kk := ?_)
          refine gx_iconst (v := -1) C dd_De_leave_77 (kk := ?_)
          refine gx_icmp_eq C 107 dd_De_leave_78 (fun h78 => absurd h78 (nI_m1 (by omega))) (fun h78 => ?_)
          refine gx_aload_n C 2 dd_De_leave_81 (kk := ?_)
          refine gx_get C fd_De_22 (gm_r ((gm_un (by decide)).trans ((gm_un (by decide)).trans hc26))) dd_De_leave_82 (kk := ?_)
          refine gx_iload_n C 3 dd_De_leave_85 (kk := ?_)
          refine gx_iload_n C 4 dd_De_leave_86 (kk := ?_)
          refine gx_iload_n C 4 dd_De_leave_87 (kk := ?_)
          refine gx_callS C (ct_WM_labelPair (gx_l K) D dA _ label label) me_WM_labelPair ml_De_82 ms_WM_labelPair dd_De_leave_88 (kk := fun v w hq2 => ?_)
          obtain ⟨rfl, rfl⟩ := hq2
          refine gx_iload C 0 dd_De_leave_91 (kk := ?_)
          refine gx_callS C (ct_WM_keyOf (gx_l K) D dA _ s (8 * label + label) y.1 (by omega) (by omega) (by omega)) me_WM_keyOf ml_De_86 ms_WM_keyOf dd_De_leave_93 (kk := fun v w hq2 => ?_)
          obtain ⟨rfl, rfl⟩ := hq2
          refine gx_lload_n C 1 dd_De_leave_96 (kk := ?_)
          refine gx_callV C (ct_Ma_bring (gx_l K) D dA ad (va_up mm im M1) (va_up (va_up r 28 (.inl (dA 1, 16, .inr (.inl fn1)))) 27 (.inl (dA 1, 256, .inr (.inl fr1)))) (key := s * 1024 + (8 * label + label) * 16 + y.1) (x0 := w0) (B := 35184372088832) him (by rw [gm_us]; exact hq.1.1) hq.1.2.1 hq.1.2.2 (by decide) (by omega) (by omega)) me_Ma_bring ml_De_90 mn_Ma_bring _ (gx_w_at (by omega) (gm_at (j := 0) him (by decide))) rfl dd_De_leave_97 (kk := fun v w hq2 => ?_)
          rcases hq2 with ⟨hr, rfl, M2, rfl, hM2⟩ | ⟨hr, rfl, rfl⟩
          · refine gx_if_eq C 107 dd_De_leave_100 (fun h100 => absurd h100 (by decide)) (fun h100 => ?_)
            refine gx_iconst (v := nI 1) C dd_De_leave_103 (kk := ?_)
            refine gx_goto C 108 dd_De_leave_104 (kk := ?_)
            refine gx_zret C dd_De_leave_108 (by first | rfl | exact fb_nar) ?_
            refine ⟨M2, _, fr1, fn1, ?_, ⟨fun k h1 h2 => (gm_un h1).trans (gm_un h2), gm_us, (gm_un (by decide)).trans gm_us, ?_⟩⟩
            · rw [gm_uu]
            · rw [de_lv_s hw hfd, if_pos hr]
              exact ⟨rfl, mb_in hq.1 hM2 hr (by omega) (by omega), hq.2⟩
          · refine gx_if_eq C 107 dd_De_leave_100 (fun h100 => ?_) (fun h100 => absurd rfl h100)
            refine gx_iconst (v := nI 0) C dd_De_leave_107 (kk := ?_)
            refine gx_zret C dd_De_leave_108 (by first | rfl | exact fb_nar) ?_
            refine ⟨M1, _, fr1, fn1, ?_, ⟨fun k h1 h2 => (gm_un h1).trans (gm_un h2), gm_us, (gm_un (by decide)).trans gm_us, ?_⟩⟩
            · rfl
            · rw [de_lv_s hw hfd, if_neg (by rw [hr]; decide)]
              rfl
      | succ m ih =>
        intro q fn1 hm hf1
        refine gx_iload C 0 dd_De_leave_20 (kk := ?_)
        refine gx_bipush (v := nI 16) C dd_De_leave_22 (kk := ?_)
        refine gx_icmp_ge C 69 dd_De_leave_24 (fun h24 => absurd h24 (nI_ge (by omega) (by omega))) (fun h24 => ?_)
        refine gx_aload_n C 2 dd_De_leave_27 (kk := ?_)
        refine gx_get C fd_De_15 (gm_r ((gm_un (by decide)).trans hc26)) dd_De_leave_28 (kk := ?_)
        refine gx_iload C 0 dd_De_leave_31 (kk := ?_)
        refine gx_aload_n C 2 dd_De_leave_33 (kk := ?_)
        refine gx_get C fd_De_15 (gm_r ((gm_un (by decide)).trans hc26)) dd_De_leave_34 (kk := ?_)
        refine gx_iload C 0 dd_De_leave_37 (kk := ?_)
        refine gz_laload C gm_us dd_De_leave_39 (by omega) (kk := ?_)
        refine gx_topl _ ((hf1 q (by omega)).trans (by rw [if_neg (by omega)])) ?_
        refine gx_ldc2 C dd_De_leave_40 kc_De_35 (kk := ?_)
        refine gx_lcmp C dd_De_leave_43 (kk := ?_)
        refine gx_if_ge C 59 dd_De_leave_44 (fun h44 => ?_) (fun h44 => ?_)
        · refine gx_ldc2 C dd_De_leave_59 kc_De_35 (kk := ?_)
          refine gx_topl (am_f (de_row (de_su (am_ar a) t label).1 w0 q)) ?_ ?_
          · rw [lc_ge] at h44
            unfold de_row
            cases hz : (de_su (am_ar a) t label).1 q with
            | none => rfl
            | some d =>
              rw [hz] at h44
              have := sb1 _ _ hz
              exact absurd ((pk_lLE (a := 1152921504606846976) (by decide) (by omega)).mp h44) (by omega)
          refine gz_lastore C gm_us dd_De_leave_62 (by omega) (kk := fun r2 hr2 => ?_)
          refine gx_iinc C 0 (nI (q + 1)) _ dd_De_leave_63 (nI_1 q) (kk := ?_)
          refine gx_goto C 20 dd_De_leave_66 (kk := ?_)
          subst hr2
          rw [gm_uu]
          refine ih (q + 1) _ (by omega) (fun k hk => ?_)
          by_cases hkq : k = q
          · subst hkq
            rw [pk_uLs, if_pos (by omega)]
          · rw [pk_uLn hkq, hf1 k hk]
            by_cases h2 : k < q
            · rw [if_pos h2, if_pos (by omega)]
            · rw [if_neg h2, if_neg (by omega)]
        · refine gx_aload_n C 2 dd_De_leave_47 (kk := ?_)
          refine gx_get C fd_De_15 (gm_r ((gm_un (by decide)).trans hc26)) dd_De_leave_48 (kk := ?_)
          refine gx_iload C 0 dd_De_leave_51 (kk := ?_)
          refine gz_laload C gm_us dd_De_leave_53 (by omega) (kk := ?_)
          refine gx_topl _ ((hf1 q (by omega)).trans (by rw [if_neg (by omega)])) ?_
          refine gx_lload_n C 1 dd_De_leave_54 (kk := ?_)
          refine gx_lsub C dd_De_leave_55 (kk := ?_)
          refine gx_goto C 62 dd_De_leave_56 (kk := ?_)
          refine gx_topl (am_f (de_row (de_su (am_ar a) t label).1 w0 q)) ?_ ?_
          · rw [lc_ge] at h44
            unfold de_row
            cases hz : (de_su (am_ar a) t label).1 q with
            | none => rw [hz] at h44; exact absurd (Int64.le_refl _) h44
            | some d =>
              obtain ⟨z, hz1, hz2⟩ := sb3 q d hz
              rw [hw] at hz1
              cases hz1
              exact lN_sub hz2
          refine gz_lastore C gm_us dd_De_leave_62 (by omega) (kk := fun r2 hr2 => ?_)
          refine gx_iinc C 0 (nI (q + 1)) _ dd_De_leave_63 (nI_1 q) (kk := ?_)
          refine gx_goto C 20 dd_De_leave_66 (kk := ?_)
          subst hr2
          rw [gm_uu]
          refine ih (q + 1) _ (by omega) (fun k hk => ?_)
          by_cases hkq : k = q
          · subst hkq
            rw [pk_uLs, if_pos (by omega)]
          · rw [pk_uLn hkq, hf1 k hk]
            by_cases h2 : k < q
            · rw [if_pos h2, if_pos (by omega)]
            · rw [if_neg h2, if_neg (by omega)]
    refine gx_topl (lN w0) rfl ?_
    refine gx_lstore_n C _ dd_De_leave_6 (kk := ?_)
    refine gx_lload_n C 0 dd_De_leave_7 (kk := ?_)
    refine gx_ldc2 C dd_De_leave_8 kc_De_35 (kk := ?_)
    refine gx_lcmp C dd_De_leave_11 (kk := ?_)
    refine gx_if_lt C 17 dd_De_leave_12 (fun h12 => ?_) (fun h12 => absurd (lc_lt.mpr ((pk_lLT (b := 1152921504606846976) (by omega) (by decide)).mpr (by omega))) h12)
    refine gx_iconst (v := nI 0) C dd_De_leave_17 (kk := ?_)
    refine gx_istore C _ dd_De_leave_18 (kk := ?_)
    exact loop 16 0 fn1 (by omega) (fun k hk => by rw [if_neg (by omega)]; exact hf1 k hk)
