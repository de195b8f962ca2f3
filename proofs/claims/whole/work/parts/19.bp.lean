theorem dd_BP_keep_0 : decode cc_BP_keep 0 = .ok (.aload_n 1, 1) := by decide +kernel
theorem dd_BP_keep_1 : decode cc_BP_keep 1 = .ok (.getfield 19, 3) := by decide +kernel
theorem dd_BP_keep_4 : decode cc_BP_keep 4 = .ok (.istore_n 3, 1) := by decide +kernel
theorem dd_BP_keep_5 : decode cc_BP_keep 5 = .ok (.aload_n 2, 1) := by decide +kernel
theorem dd_BP_keep_6 : decode cc_BP_keep 6 = .ok (.iload_n 3, 1) := by decide +kernel
theorem dd_BP_keep_7 : decode cc_BP_keep 7 = .ok (.invokevirtual 25, 3) := by decide +kernel
theorem dd_BP_keep_10 : decode cc_BP_keep 10 = .ok (.bipush 16, 2) := by decide +kernel
theorem dd_BP_keep_12 : decode cc_BP_keep 12 = .ok (.invokestatic 31, 3) := by decide +kernel
theorem dd_BP_keep_15 : decode cc_BP_keep 15 = .ok (.istore 4, 2) := by decide +kernel
theorem dd_BP_keep_17 : decode cc_BP_keep 17 = .ok (.aload_n 0, 1) := by decide +kernel
theorem dd_BP_keep_18 : decode cc_BP_keep 18 = .ok (.iconst 0, 1) := by decide +kernel
theorem dd_BP_keep_19 : decode cc_BP_keep 19 = .ok (.putfield 37, 3) := by decide +kernel
theorem dd_BP_keep_22 : decode cc_BP_keep 22 = .ok (.iconst 0, 1) := by decide +kernel
theorem dd_BP_keep_23 : decode cc_BP_keep 23 = .ok (.istore 5, 2) := by decide +kernel
theorem dd_BP_keep_25 : decode cc_BP_keep 25 = .ok (.iload 5, 2) := by decide +kernel
theorem dd_BP_keep_27 : decode cc_BP_keep 27 = .ok (.iload 4, 2) := by decide +kernel
theorem dd_BP_keep_29 : decode cc_BP_keep 29 = .ok (.if_icmp .ge 73, 3) := by decide +kernel
theorem dd_BP_keep_32 : decode cc_BP_keep 32 = .ok (.aload_n 2, 1) := by decide +kernel
theorem dd_BP_keep_33 : decode cc_BP_keep 33 = .ok (.aload_n 1, 1) := by decide +kernel
theorem dd_BP_keep_34 : decode cc_BP_keep 34 = .ok (.iload_n 3, 1) := by decide +kernel
theorem dd_BP_keep_35 : decode cc_BP_keep 35 = .ok (.invokevirtual 40, 3) := by decide +kernel
theorem dd_BP_keep_38 : decode cc_BP_keep 38 = .ok (.istore 6, 2) := by decide +kernel
theorem dd_BP_keep_40 : decode cc_BP_keep 40 = .ok (.iload 6, 2) := by decide +kernel
theorem dd_BP_keep_42 : decode cc_BP_keep 42 = .ok (.iconst (-1), 1) := by decide +kernel
theorem dd_BP_keep_43 : decode cc_BP_keep 43 = .ok (.if_icmp .ne 4, 3) := by decide +kernel
theorem dd_BP_keep_46 : decode cc_BP_keep 46 = .ok (.return_, 1) := by decide +kernel
theorem dd_BP_keep_47 : decode cc_BP_keep 47 = .ok (.aload_n 0, 1) := by decide +kernel
theorem dd_BP_keep_48 : decode cc_BP_keep 48 = .ok (.getfield 9, 3) := by decide +kernel
theorem dd_BP_keep_51 : decode cc_BP_keep 51 = .ok (.iload 5, 2) := by decide +kernel
theorem dd_BP_keep_53 : decode cc_BP_keep 53 = .ok (.aload_n 1, 1) := by decide +kernel
theorem dd_BP_keep_54 : decode cc_BP_keep 54 = .ok (.getfield 44, 3) := by decide +kernel
theorem dd_BP_keep_57 : decode cc_BP_keep 57 = .ok (.iload 6, 2) := by decide +kernel
theorem dd_BP_keep_59 : decode cc_BP_keep 59 = .ok (.iaload, 1) := by decide +kernel
theorem dd_BP_keep_60 : decode cc_BP_keep 60 = .ok (.iastore, 1) := by decide +kernel
theorem dd_BP_keep_61 : decode cc_BP_keep 61 = .ok (.aload_n 0, 1) := by decide +kernel
theorem dd_BP_keep_62 : decode cc_BP_keep 62 = .ok (.getfield 15, 3) := by decide +kernel
theorem dd_BP_keep_65 : decode cc_BP_keep 65 = .ok (.iload 5, 2) := by decide +kernel
theorem dd_BP_keep_67 : decode cc_BP_keep 67 = .ok (.aload_n 1, 1) := by decide +kernel
theorem dd_BP_keep_68 : decode cc_BP_keep 68 = .ok (.getfield 45, 3) := by decide +kernel
theorem dd_BP_keep_71 : decode cc_BP_keep 71 = .ok (.iload 6, 2) := by decide +kernel
theorem dd_BP_keep_73 : decode cc_BP_keep 73 = .ok (.laload, 1) := by decide +kernel
theorem dd_BP_keep_74 : decode cc_BP_keep 74 = .ok (.lastore, 1) := by decide +kernel
theorem dd_BP_keep_75 : decode cc_BP_keep 75 = .ok (.aload_n 0, 1) := by decide +kernel
theorem dd_BP_keep_76 : decode cc_BP_keep 76 = .ok (.dup, 1) := by decide +kernel
theorem dd_BP_keep_77 : decode cc_BP_keep 77 = .ok (.getfield 37, 3) := by decide +kernel
theorem dd_BP_keep_80 : decode cc_BP_keep 80 = .ok (.iconst 1, 1) := by decide +kernel
theorem dd_BP_keep_81 : decode cc_BP_keep 81 = .ok (.iadd, 1) := by decide +kernel
theorem dd_BP_keep_82 : decode cc_BP_keep 82 = .ok (.putfield 37, 3) := by decide +kernel
theorem dd_BP_keep_85 : decode cc_BP_keep 85 = .ok (.aload_n 0, 1) := by decide +kernel
theorem dd_BP_keep_86 : decode cc_BP_keep 86 = .ok (.getfield 9, 3) := by decide +kernel
theorem dd_BP_keep_89 : decode cc_BP_keep 89 = .ok (.iload 5, 2) := by decide +kernel
theorem dd_BP_keep_91 : decode cc_BP_keep 91 = .ok (.iaload, 1) := by decide +kernel
theorem dd_BP_keep_92 : decode cc_BP_keep 92 = .ok (.invokestatic 46, 3) := by decide +kernel
theorem dd_BP_keep_95 : decode cc_BP_keep 95 = .ok (.istore_n 3, 1) := by decide +kernel
theorem dd_BP_keep_96 : decode cc_BP_keep 96 = .ok (.iinc 5 1, 3) := by decide +kernel
theorem dd_BP_keep_99 : decode cc_BP_keep 99 = .ok (.goto (-74), 3) := by decide +kernel
theorem dd_BP_keep_102 : decode cc_BP_keep 102 = .ok (.return_, 1) := by decide +kernel
/-! THE BEST PATH -/
def on_path (l : List (Nat × Nat)) (v : ls_V) : Nat → Nat → List (Nat × Nat)
  | 0, _ => []
  | m + 1, q => match l.findIdx? (on_p v q) with
    | none => []
    | some i => (match l[i]? with
      | none => []
      | some x => x :: on_path l v m (x.1 % 16))
theorem on_path_n {l : List (Nat × Nat)} {v : ls_V} {m q : Nat} (h : l.findIdx? (on_p v q) = none) : on_path l v (m + 1) q = [] := by
  unfold on_path
  rw [h]
theorem on_path_s {l : List (Nat × Nat)} {v : ls_V} {m q i : Nat} {x : Nat × Nat} (h : l.findIdx? (on_p v q) = some i) (hx : l[i]? = some x) : on_path l v (m + 1) q = x :: on_path l v m (x.1 % 16) := by
  rw [on_path, h]
  dsimp only
  rw [hx]
theorem on_fx {l : List (Nat × Nat)} {v : ls_V} {q i : Nat} (h : l.findIdx? (on_p v q) = some i) : ∃ x, l[i]? = some x ∧ x.1 / 1024 = q ∧ ls_ad (v (x.1 % 16)) (x.2 * 32 + 1) = v q := by
  rw [List.findIdx?_eq_some_iff_getElem] at h
  obtain ⟨hi, hp, -⟩ := h
  refine ⟨l[i], List.getElem?_eq_getElem hi, ?_⟩
  simpa [on_p] using hp
def bp_at (dA : Nat → ClassId) (ad : Nat → Nat) (r : Nat → va_E) (P : List (Nat × Nat)) : Prop := r 37 = .inr (1, [.int (nI P.length), .ref (ad 38), .ref (ad 39)]) ∧ ∃ fk fw, r 38 = .inl (dA 0, 16, .inl fk) ∧ r 39 = .inl (dA 1, 16, .inr (.inl fw)) ∧ ∀ j x, P[j]? = some x → fk j = nI x.1 ∧ fw j = lN x.2
theorem am_ad_some {o : Option Nat} {w c : Nat} (h : ls_ad o w = some c) : ∃ d, o = some d ∧ d + w = c := by
  cases o with
  | none => cases h
  | some d => exact ⟨d, rfl, Option.some.inj h⟩
set_option maxRecDepth 100000 in
set_option maxHeartbeats 4000000 in
theorem ct_BP_keep (l : Launch) (D : va_G) (dA : Nat → ClassId) (ad : Nat → Nat) (mm : Nat → gm_V) (r : Nat → va_E) {ia : Nat} {a : am_T} (hia : ia < 5) (hMa : gm_is (mm ia) a) (hba : am_b 1000000001 a) (hnd : ∀ x ∈ am_ar a, x.1 / 1024 < am_n a ∧ x.1 % 16 < am_n a) (hsa : am_so (am_ar a)) {f : Nat → Int64} (hc29 : r 29 = .inr (5, [.ref (ad 30)])) (hc30 : r 30 = .inl (dA 1, 16, .inr (.inl f))) {nv : ls_V} (hf : on_in f (am_n a) nv) (hvb : sp_b 100000000000000 nv) {s0 c : Nat} (hs0n : s0 < am_n a) (hs1 : gm_q (mm ia) = nI s0) (hvs : nv s0 = some c) {len0 : Int32} {fk0 : Nat → Int32} {fw0 : Nat → Int64} (hc37 : r 37 = .inr (1, [.int len0, .ref (ad 38), .ref (ad 39)])) (hc38 : r 38 = .inl (dA 0, 16, .inl fk0)) (hc39 : r 39 = .inl (dA 1, 16, .inr (.inl fw0))) : gx_Ct l D dA yy_BP_keep cc_BP_keep 7 none 3 0 0 [.ref (ad 37), .ref (ad (2 + 4 * ia)), .ref (ad 29)] (gx_w ad (gm_h dA ad mm r)) (fun v w => v = none ∧ ∃ r2, w = gx_w ad (gm_h dA ad mm r2) ∧ bp_at dA ad r2 (on_path (am_ar a) nv (min (c % 32) 16) s0) ∧ ∀ k, k ≠ 37 → k ≠ 38 → k ≠ 39 → r2 k = r k) := by
  refine gx_of (by decide) (Nat.le_of_ble_eq_true rfl) (fun K C _ _ => ?_)
  have hn16 := hba.1
  have hl64 := hba.2.1
  obtain ⟨P, hP0⟩ : ∃ P, P = on_path (am_ar a) nv (min (c % 32) 16) s0 := ⟨_, rfl⟩
  rw [← hP0]
  have loop : ∀ m k q Q r1, k + m = min (c % 32) 16 → Q.length = k → P = Q ++ on_path (am_ar a) nv m q → q < am_n a → (∃ cq, nv q = some cq) → bp_at dA ad r1 Q → (∀ j, j ≠ 37 → j ≠ 38 → j ≠ 39 → r1 j = r j) → gx_G K D 7 0 0 25 [(5, .int (nI k)), (4, .int (nI (min (c % 32) 16))), (3, .int (nI q)), (0, .ref (ad 37)), (1, .ref (ad (2 + 4 * ia))), (2, .ref (ad 29))] [] (gx_w ad (gm_h dA ad mm r1)) (gx_Z K D dA 0 0 (fun v w => v = none ∧ ∃ r2, w = gx_w ad (gm_h dA ad mm r2) ∧ bp_at dA ad r2 P ∧ ∀ k, k ≠ 37 → k ≠ 38 → k ≠ 39 → r2 k = r k)) := by
    intro m
    induction m with
    | zero =>
      intro k q Q r1 hk hQ hP hqn hvq hb1 ho1
      obtain ⟨N, hN⟩ : ∃ N, N = min (c % 32) 16 := ⟨_, rfl⟩
      have hN16 : N ≤ 16 := by omega
      rw [← hN] at hk ⊢
      refine gx_iload C 0 dd_BP_keep_25 (kk := ?_)
      refine gx_iload C 1 dd_BP_keep_27 (kk := ?_)
      refine gx_icmp_ge C 102 dd_BP_keep_29 (fun h29 => ?_) (fun h29 => absurd (nI_le (a := N) (b := k) (by omega) (by omega)) h29)
      refine gx_vret C dd_BP_keep_102 ?_
      rw [hP, show on_path (am_ar a) nv 0 q = [] from rfl, List.append_nil]
      exact ⟨rfl, r1, rfl, hb1, ho1⟩
    | succ m ih =>
      intro k q Q r1 hk hQ hP hqn hvq hb1 ho1
      obtain ⟨N, hN⟩ : ∃ N, N = min (c % 32) 16 := ⟨_, rfl⟩
      have hN16 : N ≤ 16 := by omega
      rw [← hN] at hk ih ⊢
      obtain ⟨hb37, fk, fw, hb38, hb39, hfkw⟩ := hb1
      obtain ⟨cq, hcq⟩ := hvq
      have e29 := (ho1 29 (by decide) (by decide) (by decide)).trans hc29
      have e30 := (ho1 30 (by decide) (by decide) (by decide)).trans hc30
      refine gx_iload C 0 dd_BP_keep_25 (kk := ?_)
      refine gx_iload C 1 dd_BP_keep_27 (kk := ?_)
      refine gx_icmp_ge C 102 dd_BP_keep_29 (fun h29 => absurd h29 (nI_ge (by omega) (by omega))) (fun h29 => ?_)
      refine gx_aload_n C 5 dd_BP_keep_32 (kk := ?_)
      refine gx_aload_n C 4 dd_BP_keep_33 (kk := ?_)
      refine gx_iload_n C 2 dd_BP_keep_34 (kk := ?_)
      refine gx_callV C (ct_On_bestArc (gx_l K) D dA ad mm r1 (q := q) hia hMa hba hnd hsa e29 e30 hf (sp_b_mono hvb (by decide)) hqn ⟨cq, hcq, Nat.lt_trans (hvb _ _ hcq) (by decide)⟩) me_On_bestArc ml_BP_40 mn_On_bestArc _ (gx_w_at (by decide) (gm_r e29)) rfl dd_BP_keep_35 (kk := fun v w hq => ?_)
      obtain ⟨rfl, rfl⟩ := hq
      rcases hfi : (am_ar a).findIdx? (on_p nv q) with _ | i0
      · refine gx_istore C _ dd_BP_keep_38 (kk := ?_)
        refine gx_iload C 0 dd_BP_keep_40 (kk := ?_)
        refine gx_iconst (v := -1) C dd_BP_keep_42 (kk := ?_)
        refine gx_icmp_ne C 47 dd_BP_keep_43 (fun h43 => absurd rfl h43) (fun h43 => ?_)
        refine gx_vret C dd_BP_keep_46 ?_
        rw [hP, on_path_n hfi, List.append_nil]
        exact ⟨rfl, r1, rfl, ⟨hb37, fk, fw, hb38, hb39, hfkw⟩, ho1⟩
      · obtain ⟨x, hx, hxq, hx3⟩ := on_fx hfi
        have hil := (List.getElem?_eq_some_iff.mp hx).1
        obtain ⟨hx1, hx2⟩ := hMa.2.2.2.2 _ _ hx
        obtain ⟨hxb, hxw⟩ := hba.2.2.1 x (List.mem_of_getElem? hx)
        have hxn := hnd x (List.mem_of_getElem? hx)
        refine gx_istore C _ dd_BP_keep_38 (kk := ?_)
        refine gx_iload C 0 dd_BP_keep_40 (kk := ?_)
        refine gx_iconst (v := -1) C dd_BP_keep_42 (kk := ?_)
        refine gx_icmp_ne C 47 dd_BP_keep_43 (fun h43 => ?_) (fun h43 => absurd h43 (nI_m1 (n := i0) (by omega)))
        refine gx_aload_n C 4 dd_BP_keep_47 (kk := ?_)
        refine gx_get C fd_BP_9 (gm_r hb37) dd_BP_keep_48 (kk := ?_)
        refine gx_iload C 1 dd_BP_keep_51 (kk := ?_)
        refine gx_aload_n C 5 dd_BP_keep_53 (kk := ?_)
        refine gm_get C fd_BP_44 (by assumption) dd_BP_keep_54 (kk := ?_)
        refine gx_iload C 0 dd_BP_keep_57 (kk := ?_)
        refine gm_ln_k C hia dd_BP_keep_59 (by omega) (kk := ?_)
        refine gx_topi _ hx1 ?_
        refine gz_iastore C hb38 dd_BP_keep_60 (by omega) (kk := fun r2 hr2 => ?_)
        have e37a : r2 37 = .inr (1, [.int (nI Q.length), .ref (ad 38), .ref (ad 39)]) := by rw [hr2]; exact (gm_un (by decide)).trans hb37
        have e39a : r2 39 = .inl (dA 1, 16, .inr (.inl fw)) := by rw [hr2]; exact (gm_un (by decide)).trans hb39
        refine gx_aload_n C 4 dd_BP_keep_61 (kk := ?_)
        refine gx_get C fd_BP_15 (gm_r e37a) dd_BP_keep_62 (kk := ?_)
        refine gx_iload C 1 dd_BP_keep_65 (kk := ?_)
        refine gx_aload_n C 5 dd_BP_keep_67 (kk := ?_)
        refine gm_get C fd_BP_45 (by assumption) dd_BP_keep_68 (kk := ?_)
        refine gx_iload C 0 dd_BP_keep_71 (kk := ?_)
        refine gm_ln_g C hia dd_BP_keep_73 (by omega) (kk := ?_)
        refine gx_topl _ hx2 ?_
        refine gz_lastore C e39a dd_BP_keep_74 (by omega) (kk := fun r3 hr3 => ?_)
        have e37b : r3 37 = .inr (1, [.int (nI Q.length), .ref (ad 38), .ref (ad 39)]) := by rw [hr3]; exact (gm_un (by decide)).trans e37a
        refine gx_aload_n C 4 dd_BP_keep_75 (kk := ?_)
        refine gx_dup C dd_BP_keep_76 (kk := ?_)
        refine gx_get C fd_BP_37 (gm_r e37b) dd_BP_keep_77 (kk := ?_)
        refine gx_iconst (v := nI 1) C dd_BP_keep_80 (kk := ?_)
        refine gx_iadd C dd_BP_keep_81 (kk := ?_)
        refine gx_topi _ (nI_add _ _) ?_
        refine gz_put C fw_BP_37 e37b dd_BP_keep_82 (kk := fun r4 hr4 => ?_)
        have e37c : r4 37 = .inr (1, [.int (nI (Q.length + 1)), .ref (ad 38), .ref (ad 39)]) := by rw [hr4]; exact gm_us
        have e38c : r4 38 = .inl (dA 0, 16, .inl (upd fk k (nI x.1))) := by rw [hr4, gm_un (by decide), hr3, gm_un (by decide), hr2]; exact gm_us
        refine gx_aload_n C 4 dd_BP_keep_85 (kk := ?_)
        refine gx_get C fd_BP_9 (gm_r e37c) dd_BP_keep_86 (kk := ?_)
        refine gx_iload C 1 dd_BP_keep_89 (kk := ?_)
        refine gz_iaload C e38c dd_BP_keep_91 (by omega) (kk := ?_)
        refine gx_topi _ pk_us ?_
        refine gx_callS C (ct_WM_toOf (gx_l K) D dA _ x.1 (by omega)) me_WM_toOf ml_BP_46 ms_WM_toOf dd_BP_keep_92 (kk := fun v w hq => ?_)
        obtain ⟨rfl, rfl⟩ := hq
        refine gx_istore_n C _ dd_BP_keep_95 (kk := ?_)
        refine gx_iinc C 2 (nI (k + 1)) _ dd_BP_keep_96 (nI_1 k) (kk := ?_)
        refine gx_goto C 25 dd_BP_keep_99 (kk := ?_)
        refine gx_loc [0, 3, 1, 4, 5, 6] ?_
        obtain ⟨d, hd, hdc⟩ := am_ad_some (hx3.trans hcq)
        refine ih (k + 1) (x.1 % 16) (Q ++ [x]) r4 (by omega) (by simp; omega) (by rw [hP, on_path_s hfi hx]; simp) hxn.2 ⟨d, hd⟩ ?_ ?_
        · have e37 : r4 37 = .inr (1, [.int (nI (Q.length + 1)), .ref (ad 38), .ref (ad 39)]) := by rw [hr4]; exact gm_us
          have e38 : r4 38 = .inl (dA 0, 16, .inl (upd fk k (nI x.1))) := by rw [hr4, gm_un (by decide), hr3, gm_un (by decide), hr2]; exact gm_us
          have e39 : r4 39 = .inl (dA 1, 16, .inr (.inl (vp_updL fw k (lN x.2)))) := by rw [hr4, gm_un (by decide), hr3]; exact gm_us
          refine ⟨by rw [e37]; simp, _, _, e38, e39, fun j y hy => ?_⟩
          by_cases hj : j < k
          · rw [List.getElem?_append_left (by omega)] at hy
            rw [pk_un (by omega), pk_uLn (by omega)]
            exact hfkw j y hy
          · have hj2 : j = k := by
              have := (List.getElem?_eq_some_iff.mp hy).1
              simp at this
              omega
            subst hj2
            rw [List.getElem?_append_right (by omega), show j - Q.length = 0 by omega] at hy
            cases hy
            exact ⟨pk_us, pk_uLs⟩
        · intro j h1 h2 h3
          rw [hr4, gm_un h1, hr3, gm_un h3, hr2, gm_un h2]
          exact ho1 j h1 h2 h3
  refine gx_aload_n C 1 dd_BP_keep_0 (kk := ?_)
  refine gm_get C fd_BP_19 hia dd_BP_keep_1 (kk := ?_)
  refine gx_topi (nI s0) hs1 ?_
  refine gx_istore_n C _ dd_BP_keep_4 (kk := ?_)
  refine gx_aload_n C 3 dd_BP_keep_5 (kk := ?_)
  refine gx_iload_n C 0 dd_BP_keep_6 (kk := ?_)
  refine gx_callV C (ct_On_arcsOf (gx_l K) D dA ad mm r (q := s0) (c := c) hc29 hc30 (by omega) (by rw [hf s0 hs0n, hvs]; rfl) (Nat.lt_trans (hvb _ _ hvs) (by decide))) me_On_arcsOf ml_BP_25 mn_On_arcsOf _ (gx_w_at (by decide) (gm_r hc29)) rfl dd_BP_keep_7 (kk := fun v w hq => ?_)
  obtain ⟨rfl, rfl⟩ := hq
  refine gx_bipush (v := nI 16) C dd_BP_keep_10 (kk := ?_)
  refine gx_minI C ml_BP_31 dd_BP_keep_12 (kk := ?_)
  refine gx_topi (nI (min (c % 32) 16)) ?_ ?_
  · by_cases h : nI 16 < nI (c % 32)
    · rw [if_pos h]
      rw [nI_ltI (by decide) (by omega)] at h
      congr 1
      omega
    · rw [if_neg h]
      rw [nI_ltI (by decide) (by omega)] at h
      congr 1
      omega
  refine gx_istore C _ dd_BP_keep_15 (kk := ?_)
  refine gx_aload_n C 2 dd_BP_keep_17 (kk := ?_)
  refine gx_iconst (v := nI 0) C dd_BP_keep_18 (kk := ?_)
  refine gz_put C fw_BP_37 hc37 dd_BP_keep_19 (kk := fun r1 hr1 => ?_)
  refine gx_iconst (v := nI 0) C dd_BP_keep_22 (kk := ?_)
  refine gx_istore C _ dd_BP_keep_23 (kk := ?_)
  refine loop (min (c % 32) 16) 0 s0 [] r1 (by omega) rfl hP0 hs0n ⟨c, hvs⟩ ⟨by rw [hr1]; exact gm_us, fk0, fw0, by rw [hr1]; exact (gm_un (by decide)).trans hc38, by rw [hr1]; exact (gm_un (by decide)).trans hc39, fun j x hx => absurd hx (by simp)⟩ (fun j h1 _ _ => by rw [hr1]; exact gm_un h1)
