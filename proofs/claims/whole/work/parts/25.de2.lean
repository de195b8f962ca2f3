def de_sk (l : List (Nat × Nat)) (v : ls_V) (label k : Nat) : ls_V × Option Nat := (l.take k).foldl (de_r v label) ((fun _ => none), none)
theorem de_sk_s {l : List (Nat × Nat)} {v : ls_V} {label k : Nat} {x : Nat × Nat} (h : l[k]? = some x) : de_sk l v label (k + 1) = de_r v label (de_sk l v label k) x := by
  unfold de_sk
  rw [List.take_add_one, h]
  simp [List.foldl_append]
theorem de_sk_b {l : List (Nat × Nat)} {v : ls_V} {label B W : Nat} (hv : sp_b B v) (hl : ∀ x ∈ l, x.2 < W) : ∀ k, k ≤ l.length → sp_b (B + W) (de_sk l v label k).1 ∧ (∀ a, (de_sk l v label k).2 = some a → a < B + W) ∧ ∀ q, ls_le (de_sk l v label k).2 ((de_sk l v label k).1 q)
  | 0, _ => ⟨fun s x hx => (by cases hx), fun a h => (by cases h), fun q y hy => (by cases hy)⟩
  | k + 1, hk => by
    obtain ⟨h1, h2, h3⟩ := de_sk_b (label := label) hv hl k (by omega)
    obtain ⟨x, hx⟩ : ∃ x, l[k]? = some x := ⟨_, List.getElem?_eq_getElem (by omega)⟩
    have hxw := hl x (List.mem_of_getElem? hx)
    rw [de_sk_s hx]
    unfold de_r
    by_cases hc : x.1 / 128 % 8 = label ∧ ls_lt (ls_ad (v (x.1 / 1024)) x.2) ((de_sk l v label k).1 (x.1 % 16)) = true
    · rw [if_pos hc]
      have hs : ∀ a, ls_ad (v (x.1 / 1024)) x.2 = some a → a < B + W := fun a ha => by
        obtain ⟨d, hd, rfl⟩ := am_ad_some ha
        have := hv _ _ hd
        omega
      refine ⟨fun s y hy => ?_, om_b h2 hs, fun q => ?_⟩
      · by_cases hq : s = x.1 % 16
        · subst hq
          have hy : va_up (de_sk l v label k).1 (x.1 % 16) (ls_ad (v (x.1 / 1024)) x.2) (x.1 % 16) = some y := hy
          rw [gm_us] at hy
          exact hs y hy
        · have hy : va_up (de_sk l v label k).1 (x.1 % 16) (ls_ad (v (x.1 / 1024)) x.2) s = some y := hy
          rw [gm_un hq] at hy
          exact h1 s y hy
      · show ls_le (om (de_sk l v label k).2 (ls_ad (v (x.1 / 1024)) x.2)) (va_up (de_sk l v label k).1 (x.1 % 16) (ls_ad (v (x.1 / 1024)) x.2) q)
        have ho1 : ls_le (om (de_sk l v label k).2 (ls_ad (v (x.1 / 1024)) x.2)) (ls_ad (v (x.1 / 1024)) x.2) := by
          unfold om
          split
          · exact ls_rf _
          · rename_i hn
            exact ls_nlt.mp (by simpa using hn)
        have ho2 : ls_le (om (de_sk l v label k).2 (ls_ad (v (x.1 / 1024)) x.2)) (de_sk l v label k).2 := by
          unfold om
          split
          · rename_i hn
            exact ls_lt_le hn
          · exact ls_rf _
        by_cases hq : q = x.1 % 16
        · subst hq
          rw [gm_us]
          exact ho1
        · rw [gm_un hq]
          exact ls_tr ho2 (h3 q)
    · rw [if_neg hc]
      exact ⟨h1, h2, h3⟩
theorem de_sk_e (l : List (Nat × Nat)) (v : ls_V) (label : Nat) : de_sk l v label l.length = de_su l v label := by
  unfold de_sk de_su
  rw [List.take_length]
theorem om_f2 {a b : Option Nat} (ha : ∀ x, a = some x → x < 2 ^ 60) (hb : ∀ x, b = some x → x < 2 ^ 60) : (if am_f a < am_f b then am_f a else am_f b) = am_f (om b a) := by
  unfold om
  have key : am_f a < am_f b ↔ ls_lt a b = true := by
    have := am_f_lt (o := a) (o2 := b) (w := 0) (fun x h => by have := ha x h; omega) (fun x h => by have := hb x h; omega) (by decide)
    rw [show am_f a + lN 0 = am_f a by rw [am_f_n, lN_add, Nat.add_zero]] at this
    rw [this]
    cases a <;> rfl
  by_cases h : ls_lt a b = true
  · rw [if_pos (key.mpr h), if_pos h]
  · rw [if_neg (fun q => h (key.mp q)), if_neg h]
set_option maxRecDepth 100000 in
set_option maxHeartbeats 4000000 in
theorem ct_De_sumUp (l : Launch) (D : va_G) (dA : Nat → ClassId) (ad : Nat → Nat) (mm : Nat → gm_V) (r : Nat → va_E) {ia im s label B : Nat} (hc26 : r 26 = .inr (3, [.ref (ad (2 + 4 * ia)), .ref (ad (2 + 4 * im)), .ref (ad 27), .ref (ad 28)])) {fr fn : Nat → Int64} (hc27 : r 27 = .inl (dA 1, 256, .inr (.inl fr))) (hc28 : r 28 = .inl (dA 1, 16, .inr (.inl fn))) {a : am_T} (hia : ia < 5) (hMa : gm_is (mm ia) a) (hba : am_b 1000000001 a) {t : ls_V} (hs : s < 16) (hlab : label < 8) (hrow : ∀ q, q < 16 → fr (s * 16 + q) = am_f (t q)) (ht : sp_b B t) (hB : B ≤ 400000000000000000) : gx_Ct l D dA yy_De_sumUp cc_De_sumUp 9 (some .long) 1 0 0 [.ref (ad 26), .int (nI s), .int (nI label)] (gx_w ad (gm_h dA ad mm r)) (fun v w => ∃ fn2, w = (gx_w ad (gm_h dA ad mm (va_up r 28 (.inl (dA 1, 16, .inr (.inl fn2)))))) ∧ v = some (.long (am_f (de_su (am_ar a) t label).2)) ∧ ∀ q, q < 16 → fn2 q = am_f ((de_su (am_ar a) t label).1 q)) := by
  refine gx_of (by decide) (Nat.le_of_ble_eq_true rfl) (fun K C _ _ => ?_)
  have hl64 := hba.2.1
  have loop : ∀ m k fn1, k + m = (am_ar a).length → (∀ q, q < 16 → fn1 q = am_f ((de_sk (am_ar a) t label k).1 q)) → gx_G K D 9 0 0 17 [(5, .int (nI k)), (3, .long (am_f (de_sk (am_ar a) t label k).2)), (0, .ref (ad 26)), (1, .int (nI s)), (2, .int (nI label))] [] (gx_w ad (gm_h dA ad mm (va_up r 28 (.inl (dA 1, 16, .inr (.inl fn1)))))) (gx_Z K D dA 0 0 (fun v w => ∃ fn2, w = (gx_w ad (gm_h dA ad mm (va_up r 28 (.inl (dA 1, 16, .inr (.inl fn2)))))) ∧ v = some (.long (am_f (de_su (am_ar a) t label).2)) ∧ ∀ q, q < 16 → fn2 q = am_f ((de_su (am_ar a) t label).1 q))) := by
    intro m
    induction m with
    | zero =>
      intro k fn1 hk hf1
      refine gx_iload C 0 dd_De_sumUp_17 (kk := ?_)
      refine gx_aload_n C 2 dd_De_sumUp_19 (kk := ?_)
      refine gx_get C fd_De_18 (gm_r ((gm_un (by decide)).trans hc26)) dd_De_sumUp_20 (kk := ?_)
      refine gm_get C fd_De_94 hia dd_De_sumUp_23 (kk := ?_)
      refine gx_topi _ hMa.2.2.2.1 ?_
      refine gx_icmp_ge C 119 dd_De_sumUp_26 (fun h26 => ?_) (fun h26 => absurd (nI_le (a := (am_ar a).length) (b := k) (by omega) (by omega)) h26)
      refine gx_lload_n C 1 dd_De_sumUp_119 (kk := ?_)
      refine gx_lret C dd_De_sumUp_120 ?_
      rw [show k = (am_ar a).length by omega, de_sk_e] at hf1 ⊢
      exact ⟨fn1, rfl, rfl, hf1⟩
    | succ m ih =>
      intro k fn1 hk hf1
      obtain ⟨x, hx⟩ : ∃ x, (am_ar a)[k]? = some x := ⟨_, List.getElem?_eq_getElem (by omega)⟩
      obtain ⟨hx1, hx2⟩ := hMa.2.2.2.2 _ _ hx
      obtain ⟨hxb, hxw⟩ := hba.2.2.1 x (List.mem_of_getElem? hx)
      obtain ⟨sb1, sb2, sb3⟩ := de_sk_b (label := label) ht (fun x hx => (hba.2.2.1 x hx).2) k (by omega)
      have LT : (am_f (t (x.1 / 1024)) + lN x.2 < am_f ((de_sk (am_ar a) t label k).1 (x.1 % 16))) ↔ ls_lt (ls_ad (t (x.1 / 1024)) x.2) ((de_sk (am_ar a) t label k).1 (x.1 % 16)) = true := am_f_lt (fun y hy => by have := ht _ _ hy; omega) (fun y hy => by have := sb1 _ _ hy; omega) (by omega)
      refine gx_iload C 0 dd_De_sumUp_17 (kk := ?_)
      refine gx_aload_n C 2 dd_De_sumUp_19 (kk := ?_)
      refine gx_get C fd_De_18 (gm_r ((gm_un (by decide)).trans hc26)) dd_De_sumUp_20 (kk := ?_)
      refine gm_get C fd_De_94 hia dd_De_sumUp_23 (kk := ?_)
      refine gx_topi _ hMa.2.2.2.1 ?_
      refine gx_icmp_ge C 119 dd_De_sumUp_26 (fun h26 => absurd h26 (nI_ge (by omega) (by omega))) (fun h26 => ?_)
      refine gx_aload_n C 2 dd_De_sumUp_29 (kk := ?_)
      refine gx_get C fd_De_18 (gm_r ((gm_un (by decide)).trans hc26)) dd_De_sumUp_30 (kk := ?_)
      refine gm_get C fd_De_97 (by assumption) dd_De_sumUp_33 (kk := ?_)
      refine gx_iload C 0 dd_De_sumUp_36 (kk := ?_)
      refine gm_ln_k C hia dd_De_sumUp_38 (by omega) (kk := ?_)
      refine gx_topi _ hx1 ?_
      refine gx_istore C _ dd_De_sumUp_39 (kk := ?_)
      refine gx_aload_n C 3 dd_De_sumUp_41 (kk := ?_)
      refine gx_get C fd_De_9 (gm_r ((gm_un (by decide)).trans hc26)) dd_De_sumUp_42 (kk := ?_)
      refine gx_iload_n C 4 dd_De_sumUp_45 (kk := ?_)
      refine gx_bipush (v := nI 16) C dd_De_sumUp_46 (kk := ?_)
      refine gx_imul C dd_De_sumUp_48 (kk := ?_)
      refine gx_topi _ (pk_mul _ _) ?_
      refine gx_iload C 0 dd_De_sumUp_49 (kk := ?_)
      refine gx_callS C (ct_WM_fromOf (gx_l K) D dA _ x.1 (by omega)) me_WM_fromOf ml_De_101 ms_WM_fromOf dd_De_sumUp_51 (kk := fun v w hq => ?_)
      obtain ⟨rfl, rfl⟩ := hq
      refine gx_iadd C dd_De_sumUp_54 (kk := ?_)
      refine gx_topi _ (nI_add _ _) ?_
      refine gz_laload C ((gm_un (by decide)).trans hc27) dd_De_sumUp_55 (by omega) (kk := ?_)
      refine gx_topl _ (hrow _ (by omega)) ?_
      refine gx_aload_n C 3 dd_De_sumUp_56 (kk := ?_)
      refine gx_get C fd_De_18 (gm_r ((gm_un (by decide)).trans hc26)) dd_De_sumUp_57 (kk := ?_)
      refine gm_get C fd_De_105 (by assumption) dd_De_sumUp_60 (kk := ?_)
      refine gx_iload C 1 dd_De_sumUp_63 (kk := ?_)
      refine gm_ln_g C hia dd_De_sumUp_65 (by omega) (kk := ?_)
      refine gx_topl _ hx2 ?_
      refine gx_ladd C dd_De_sumUp_66 (kk := ?_)
      refine gx_lstore C _ dd_De_sumUp_67 (kk := ?_)
      refine gx_iload C 1 dd_De_sumUp_69 (kk := ?_)
      refine gx_callS C (ct_WM_inOf (gx_l K) D dA _ x.1 (by omega)) me_WM_inOf ml_De_108 ms_WM_inOf dd_De_sumUp_71 (kk := fun v w hq => ?_)
      obtain ⟨rfl, rfl⟩ := hq
      refine gx_iload_n C 6 dd_De_sumUp_74 (kk := ?_)
      refine gx_icmp_ne C 113 dd_De_sumUp_75 (fun h75 => ?_) (fun h75 => ?_)
      · refine gx_iinc C 2 (nI (k + 1)) _ dd_De_sumUp_113 (nI_1 k) (kk := ?_)
        refine gx_goto C 17 dd_De_sumUp_116 (kk := ?_)
        refine gx_loc [0, 3, 4, 5, 6] ?_
        rw [nI_eq (by omega) (by omega)] at h75
        have hs : de_sk (am_ar a) t label (k + 1) = de_sk (am_ar a) t label k := by
          rw [de_sk_s hx]
          exact if_neg (fun h => h75 h.1)
        rw [← hs] at hf1 ⊢
        exact ih (k + 1) fn1 (by omega) hf1
      · refine gx_lload C 0 dd_De_sumUp_78 (kk := ?_)
        refine gx_aload_n C 4 dd_De_sumUp_80 (kk := ?_)
        refine gx_get C fd_De_15 (gm_r ((gm_un (by decide)).trans hc26)) dd_De_sumUp_81 (kk := ?_)
        refine gx_iload C 1 dd_De_sumUp_84 (kk := ?_)
        refine gx_callS C (ct_WM_toOf (gx_l K) D dA _ x.1 (by omega)) me_WM_toOf ml_De_111 ms_WM_toOf dd_De_sumUp_86 (kk := fun v w hq => ?_)
        obtain ⟨rfl, rfl⟩ := hq
        refine gz_laload C gm_us dd_De_sumUp_89 (by omega) (kk := ?_)
        refine gx_topl _ (hf1 _ (by omega)) ?_
        refine gx_lcmp C dd_De_sumUp_90 (kk := ?_)
        refine gx_if_ge C 113 dd_De_sumUp_91 (fun h91 => ?_) (fun h91 => ?_)
        · refine gx_iinc C 2 (nI (k + 1)) _ dd_De_sumUp_113 (nI_1 k) (kk := ?_)
          refine gx_goto C 17 dd_De_sumUp_116 (kk := ?_)
          refine gx_loc [0, 3, 4, 5, 6] ?_
          rw [lc_ge, ← Int64.not_lt, LT] at h91
          have hs : de_sk (am_ar a) t label (k + 1) = de_sk (am_ar a) t label k := by
            rw [de_sk_s hx]
            exact if_neg (fun h => h91 h.2)
          rw [← hs] at hf1 ⊢
          exact ih (k + 1) fn1 (by omega) hf1
        · rw [nI_eq (by omega) (by omega)] at h75
          rw [lc_ge, ← Int64.not_lt, LT] at h91
          have h91 := Classical.not_not.mp h91
          have hs : de_sk (am_ar a) t label (k + 1) = (va_up (de_sk (am_ar a) t label k).1 (x.1 % 16) (ls_ad (t (x.1 / 1024)) x.2), om (de_sk (am_ar a) t label k).2 (ls_ad (t (x.1 / 1024)) x.2)) := by
            rw [de_sk_s hx]
            exact if_pos ⟨h75, h91⟩
          obtain ⟨y, hy⟩ : ∃ y, ls_ad (t (x.1 / 1024)) x.2 = some y := by
            cases hz : ls_ad (t (x.1 / 1024)) x.2 with
            | none => rw [hz] at h91; cases h91
            | some y => exact ⟨y, rfl⟩
          have hyb : y < B + 1000000001 := by
            obtain ⟨d, hd, rfl⟩ := am_ad_some hy
            have := ht _ _ hd
            omega
          refine gx_aload_n C 4 dd_De_sumUp_94 (kk := ?_)
          refine gx_get C fd_De_15 (gm_r ((gm_un (by decide)).trans hc26)) dd_De_sumUp_95 (kk := ?_)
          refine gx_iload C 1 dd_De_sumUp_98 (kk := ?_)
          refine gx_callS C (ct_WM_toOf (gx_l K) D dA _ x.1 (by omega)) me_WM_toOf ml_De_111 ms_WM_toOf dd_De_sumUp_100 (kk := fun v w hq => ?_)
          obtain ⟨rfl, rfl⟩ := hq
          refine gx_lload C 0 dd_De_sumUp_103 (kk := ?_)
          refine gz_lastore C gm_us dd_De_sumUp_105 (by omega) (kk := fun r2 hr2 => ?_)
          refine gx_lload_n C 3 dd_De_sumUp_106 (kk := ?_)
          refine gx_lload C 0 dd_De_sumUp_107 (kk := ?_)
          refine gx_min C ml_De_72 dd_De_sumUp_109 (kk := ?_)
          refine gx_topl (am_f (de_sk (am_ar a) t label (k + 1)).2) (by rw [hs, am_f_ad hy]; exact om_f2 (fun z hz => by rw [hy] at hz; cases hz; omega) (fun z hz => by have := sb2 z hz; omega)) ?_
          refine gx_lstore_n C _ dd_De_sumUp_112 (kk := ?_)
          refine gx_iinc C 3 (nI (k + 1)) _ dd_De_sumUp_113 (nI_1 k) (kk := ?_)
          refine gx_goto C 17 dd_De_sumUp_116 (kk := ?_)
          refine gx_loc [0, 1, 4, 5, 6] ?_
          subst hr2
          rw [gm_uu]
          refine ih (k + 1) _ (by omega) (fun q hq => ?_)
          rw [hs]
          show _ = am_f (va_up (de_sk (am_ar a) t label k).1 (x.1 % 16) (ls_ad (t (x.1 / 1024)) x.2) q)
          by_cases hqx : q = x.1 % 16
          · subst hqx
            rw [pk_uLs, gm_us]
            exact am_f_ad hy
          · rw [pk_uLn hqx, gm_un hqx]
            exact hf1 q hq
  refine gx_aload_n C 0 dd_De_sumUp_0 (kk := ?_)
  refine gx_get C fd_De_15 (gm_r hc26) dd_De_sumUp_1 (kk := ?_)
  refine gx_ldc2 C dd_De_sumUp_4 kc_De_35 (kk := ?_)
  refine gx_callS C (ct_JA_fill (gx_l K) D dA ad (gm_h dA ad mm r) 28 16 fn 1152921504606846976 (by decide) (by decide) (gm_r hc28)) me_JA_fill ml_De_37 ms_JA_fill dd_De_sumUp_7 (kk := fun v w hq => ?_)
  obtain ⟨rfl, rfl⟩ := hq
  rw [gm_upr (by decide)]
  refine gx_ldc2 C dd_De_sumUp_10 kc_De_35 (kk := ?_)
  refine gx_lstore_n C _ dd_De_sumUp_13 (kk := ?_)
  refine gx_iconst (v := nI 0) C dd_De_sumUp_14 (kk := ?_)
  refine gx_istore C _ dd_De_sumUp_15 (kk := ?_)
  exact loop (am_ar a).length 0 _ (by omega) (fun q hq => if_pos hq)
set_option maxRecDepth 100000 in
set_option maxHeartbeats 4000000 in
theorem ct_De_leastEnd (l : Launch) (D : va_G) (dA : Nat → ClassId) (ad : Nat → Nat) (mm : Nat → gm_V) (r : Nat → va_E) {ia im s : Nat} (hc26 : r 26 = .inr (3, [.ref (ad (2 + 4 * ia)), .ref (ad (2 + 4 * im)), .ref (ad 27), .ref (ad 28)])) {fr fn : Nat → Int64} (hc27 : r 27 = .inl (dA 1, 256, .inr (.inl fr))) (hc28 : r 28 = .inl (dA 1, 16, .inr (.inl fn))) {a : am_T} (hia : ia < 5) (hMa : gm_is (mm ia) a) (hba : am_b 1000000001 a) {t : ls_V} (hs : s < 16) (hrow : ∀ q, q < 16 → fr (s * 16 + q) = am_f (t q)) (ht : sp_b 17592186044416 t) : gx_Ct l D dA yy_De_leastEnd cc_De_leastEnd 5 (some .long) 1 0 0 [.ref (ad 26), .int (nI s)] (gx_w ad (gm_h dA ad mm r)) (fun v w => v = some (.long (am_f (ba_le t (am_en a) (am_n a)))) ∧ w = (gx_w ad (gm_h dA ad mm r))) := by
  refine gx_of (by decide) (Nat.le_of_ble_eq_true rfl) (fun K C _ _ => ?_)
  have hn16 := hba.1
  have loop : ∀ m q, q + m = am_n a → gx_G K D 5 0 0 7 [(4, .int (nI q)), (2, .long (am_f (ba_le t (am_en a) q))), (0, .ref (ad 26)), (1, .int (nI s))] [] (gx_w ad (gm_h dA ad mm r)) (gx_Z K D dA 0 0 (fun v w => v = some (.long (am_f (ba_le t (am_en a) (am_n a)))) ∧ w = (gx_w ad (gm_h dA ad mm r)))) := by
    intro m
    induction m with
    | zero =>
      intro q hm
      refine gx_iload C 0 dd_De_leastEnd_7 (kk := ?_)
      refine gx_aload_n C 2 dd_De_leastEnd_9 (kk := ?_)
      refine gx_get C fd_De_18 (gm_r hc26) dd_De_leastEnd_10 (kk := ?_)
      refine gm_get C fd_De_55 hia dd_De_leastEnd_13 (kk := ?_)
      refine gx_topi _ hMa.1 ?_
      refine gx_icmp_ge C 52 dd_De_leastEnd_16 (fun h16 => ?_) (fun h16 => absurd (nI_le (a := am_n a) (b := q) (by omega) (by omega)) h16)
      refine gx_lload_n C 1 dd_De_leastEnd_52 (kk := ?_)
      refine gx_lret C dd_De_leastEnd_53 ?_
      rw [show q = am_n a by omega]
      exact ⟨rfl, rfl⟩
    | succ m ih =>
      intro q hm
      refine gx_iload C 0 dd_De_leastEnd_7 (kk := ?_)
      refine gx_aload_n C 2 dd_De_leastEnd_9 (kk := ?_)
      refine gx_get C fd_De_18 (gm_r hc26) dd_De_leastEnd_10 (kk := ?_)
      refine gm_get C fd_De_55 hia dd_De_leastEnd_13 (kk := ?_)
      refine gx_topi _ hMa.1 ?_
      refine gx_icmp_ge C 52 dd_De_leastEnd_16 (fun h16 => absurd h16 (nI_ge (by omega) (by omega))) (fun h16 => ?_)
      refine gx_lload_n C 1 dd_De_leastEnd_19 (kk := ?_)
      refine gx_aload_n C 2 dd_De_leastEnd_20 (kk := ?_)
      refine gx_get C fd_De_9 (gm_r hc26) dd_De_leastEnd_21 (kk := ?_)
      refine gx_iload_n C 3 dd_De_leastEnd_24 (kk := ?_)
      refine gx_bipush (v := nI 16) C dd_De_leastEnd_25 (kk := ?_)
      refine gx_imul C dd_De_leastEnd_27 (kk := ?_)
      refine gx_topi _ (pk_mul _ _) ?_
      refine gx_iload C 0 dd_De_leastEnd_28 (kk := ?_)
      refine gx_iadd C dd_De_leastEnd_30 (kk := ?_)
      refine gx_topi _ (nI_add _ _) ?_
      refine gz_laload C hc27 dd_De_leastEnd_31 (by omega) (kk := ?_)
      refine gx_topl (am_f (t q)) (hrow q (by omega)) ?_
      refine gx_aload_n C 2 dd_De_leastEnd_32 (kk := ?_)
      refine gx_get C fd_De_18 (gm_r hc26) dd_De_leastEnd_33 (kk := ?_)
      refine gx_iload C 0 dd_De_leastEnd_36 (kk := ?_)
      refine gx_callV C (ct_Ma_endOrFar (gx_l K) D dA ad mm r (q := q) hia (by omega) hMa (fun q e he => Nat.lt_trans (hba.2.2.2.1 q e he) (by decide))) me_Ma_endOrFar ml_De_69 mn_Ma_endOrFar _ (gx_w_at (by omega) (gm_at (j := 0) hia (by decide))) rfl dd_De_leastEnd_38 (kk := fun v w hq => ?_)
      obtain ⟨rfl, rfl⟩ := hq
      refine gx_ladd C dd_De_leastEnd_41 (kk := ?_)
      refine gx_min C ml_De_72 dd_De_leastEnd_42 (kk := ?_)
      refine gx_topl (am_f (ba_le t (am_en a) (q + 1))) (om_f (fun a h => Nat.lt_trans (ht _ a h) (by decide)) (fun e h => Nat.lt_trans (hba.2.2.2.1 _ e h) (by decide)) (fun e h => Nat.lt_trans (ba_le_b (B := 17592186044416) ht (fun q e h => Nat.lt_trans (hba.2.2.2.1 q e h) (by decide)) q e h) (by decide))) ?_
      refine gx_lstore_n C _ dd_De_leastEnd_45 (kk := ?_)
      refine gx_iinc C 1 (nI (q + 1)) _ dd_De_leastEnd_46 (nI_1 q) (kk := ?_)
      refine gx_goto C 7 dd_De_leastEnd_49 (kk := ?_)
      exact ih (q + 1) (by omega)
  refine gx_ldc2 C dd_De_leastEnd_0 kc_De_35 (kk := ?_)
  refine gx_lstore_n C _ dd_De_leastEnd_3 (kk := ?_)
  refine gx_iconst (v := nI 0) C dd_De_leastEnd_4 (kk := ?_)
  refine gx_istore C _ dd_De_leastEnd_5 (kk := ?_)
  exact loop (am_n a) 0 (by omega)
