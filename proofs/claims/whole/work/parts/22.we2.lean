theorem we_min {o o2 : Option Nat} {w : Nat} (h1 : ∀ x, o = some x → x + w < 1152921504606846976) (h2 : ∀ x, o2 = some x → x < 1152921504606846976) (hw : w < 1152921504606846976) : (if am_f o + lN w < am_f o2 then am_f o + lN w else am_f o2) = am_f (if ls_lt (ls_ad o w) o2 = true then ls_ad o w else o2) := by
  by_cases h : ls_lt (ls_ad o w) o2 = true
  · rw [if_pos h, if_pos ((am_f_lt h1 h2 hw).mpr h)]
    cases hz : ls_ad o w with
    | none => rw [hz] at h; cases h
    | some y => rw [← hz]; exact am_f_ad hz
  · rw [if_neg h, if_neg (fun q => h ((am_f_lt h1 h2 hw).mp q))]
theorem we_rx_at (v : ls_V) (x : ls_A) (t : Nat) : ls_rx v x t = if t = x.2.1 then (if ls_lt (ls_ad (v x.1) x.2.2) (v x.2.1) = true then ls_ad (v x.1) x.2.2 else v x.2.1) else v t := by
  unfold ls_rx
  by_cases ht : t = x.2.1
  · subst ht
    rw [if_pos rfl]
    split
    · exact gm_us
    · rfl
  · rw [if_neg ht]
    split
    · exact gm_un ht
    · rfl
theorem ro_at_keep {dA : Nat → ClassId} {ad : Nat → Nat} {r r2 : Nat → va_E} {qo qa : Nat} {L : List Nat} (h : ro_at dA ad r qo qa L) (h1 : r2 qo = r qo) (h2 : r2 qa = r qa) : ro_at dA ad r2 qo qa L := by
  obtain ⟨a1, ⟨f, a2, a3⟩, a4⟩ := h
  exact ⟨h1.trans a1, ⟨f, h2.trans a2, a3⟩, a4⟩
set_option maxRecDepth 100000 in
set_option maxHeartbeats 4000000 in
theorem ct_We_leave (l : Launch) (D : va_G) (dA : Nat → ClassId) (ad : Nat → Nat) (mm : Nat → gm_V) (r : Nat → va_E) {ia : Nat} {a : am_T} (hia : ia < 5) (hMa : gm_is (mm ia) a) (hba : am_b 1000000001 a) (hnd : ∀ x ∈ am_ar a, x.1 / 1024 < am_n a ∧ x.1 % 16 < am_n a) (hc31 : r 31 = .inr (9, [.ref (ad 32), .ref (ad 34), .ref (ad 36)])) {La Lb : List Nat} (hra : ro_at dA ad r 32 33 La) (hrb : ro_at dA ad r 34 35 Lb) {f : Nat → Int64} (hc36 : r 36 = .inl (dA 1, 1296, .inr (.inl f))) {v0 : ls_V} {i j Bd : Nat} (hf : we_in f v0) (hB : sp_b Bd v0) (hBd : Bd ≤ 900000000000000000) (hi : i ≤ La.length) (hj : j ≤ Lb.length) : gx_Ct l D dA yy_We_leave cc_We_leave 11 none 1 0 0 [.ref (ad 31), .ref (ad (2 + 4 * ia)), .int (nI i), .int (nI j)] (gx_w ad (gm_h dA ad mm r)) (fun v w => v = none ∧ ∃ f2, w = (gx_w ad (gm_h dA ad mm (va_up r 36 (.inl (dA 1, 1296, .inr (.inl f2)))))) ∧ we_in f2 (ls_rd (we_L La.reverse Lb.reverse i j (am_ar a)) v0) ∧ sp_b (Bd + 64 * 1000000001) (ls_rd (we_L La.reverse Lb.reverse i j (am_ar a)) v0)) := by
  refine gx_of (by decide) (Nat.le_of_ble_eq_true rfl) (fun K C _ _ => ?_)
  have hl64 := hba.2.1
  have hla := hra.2.2.1
  have hlb := hrb.2.2.1
  have loop : ∀ m k v1 f1, k + m = (am_ar a).length → v1 = ls_rd (we_L La.reverse Lb.reverse i j ((am_ar a).take k)) v0 → we_in f1 v1 → sp_b (Bd + k * 1000000001) v1 → gx_G K D 11 0 0 3 [(4, .int (nI k)), (0, .ref (ad 31)), (1, .ref (ad (2 + 4 * ia))), (2, .int (nI i)), (3, .int (nI j))] [] (gx_w ad (gm_h dA ad mm (va_up r 36 (.inl (dA 1, 1296, .inr (.inl f1)))))) (gx_Z K D dA 0 0 (fun v w => v = none ∧ ∃ f2, w = (gx_w ad (gm_h dA ad mm (va_up r 36 (.inl (dA 1, 1296, .inr (.inl f2)))))) ∧ we_in f2 (ls_rd (we_L La.reverse Lb.reverse i j (am_ar a)) v0) ∧ sp_b (Bd + 64 * 1000000001) (ls_rd (we_L La.reverse Lb.reverse i j (am_ar a)) v0))) := by
    intro m
    induction m with
    | zero =>
      intro k v1 f1 hk hv1 hf1 hB1
      refine gx_iload C 0 dd_We_leave_3 (kk := ?_)
      refine gx_aload_n C 2 dd_We_leave_5 (kk := ?_)
      refine gm_get C fd_We_68 hia dd_We_leave_6 (kk := ?_)
      refine gx_topi _ hMa.2.2.2.1 ?_
      refine gx_icmp_ge C 137 dd_We_leave_9 (fun h9 => ?_) (fun h9 => absurd (nI_le (a := (am_ar a).length) (b := k) (by omega) (by omega)) h9)
      refine gx_vret C dd_We_leave_137 ?_
      rw [show k = (am_ar a).length by omega, List.take_length] at hv1
      subst hv1
      exact ⟨rfl, f1, rfl, hf1, sp_b_mono hB1 (by omega)⟩
    | succ m ih =>
      intro k v1 f1 hk hv1 hf1 hB1
      obtain ⟨x, hx⟩ : ∃ x, (am_ar a)[k]? = some x := ⟨_, List.getElem?_eq_getElem (by omega)⟩
      obtain ⟨hx1, hx2⟩ := hMa.2.2.2.2 _ _ hx
      obtain ⟨hxb, hxw⟩ := hba.2.2.1 x (List.mem_of_getElem? hx)
      refine gx_iload C 0 dd_We_leave_3 (kk := ?_)
      refine gx_aload_n C 2 dd_We_leave_5 (kk := ?_)
      refine gm_get C fd_We_68 hia dd_We_leave_6 (kk := ?_)
      refine gx_topi _ hMa.2.2.2.1 ?_
      refine gx_icmp_ge C 137 dd_We_leave_9 (fun h9 => absurd h9 (nI_ge (by omega) (by omega))) (fun h9 => ?_)
      refine gx_aload_n C 2 dd_We_leave_12 (kk := ?_)
      refine gm_get C fd_We_71 (by assumption) dd_We_leave_13 (kk := ?_)
      refine gx_iload C 0 dd_We_leave_16 (kk := ?_)
      refine gm_ln_k C hia dd_We_leave_18 (by omega) (kk := ?_)
      refine gx_topi _ hx1 ?_
      refine gx_istore C _ dd_We_leave_19 (kk := ?_)
      refine gx_aload_n C 2 dd_We_leave_21 (kk := ?_)
      refine gx_get C fd_We_12 (gm_r ((gm_un (by decide)).trans hc31)) dd_We_leave_22 (kk := ?_)
      refine gx_iload_n C 4 dd_We_leave_25 (kk := ?_)
      refine gx_iload C 0 dd_We_leave_26 (kk := ?_)
      refine gx_callS C (ct_WM_inOf (gx_l K) D dA _ x.1 (by omega)) me_WM_inOf ml_We_75 ms_WM_inOf dd_We_leave_28 (kk := fun v w hq => ?_)
      obtain ⟨rfl, rfl⟩ := hq
      refine gx_callV C (ct_Ro_doneAfter (gx_l K) D dA ad mm (va_up r 36 (.inl (dA 1, 1296, .inr (.inl f1)))) (qo := 32) (qa := 33) (i := i) (b := x.1 / 128 % 8) (by decide) (by decide) (by decide) (by decide) (ro_at_keep hra (gm_un (by decide)) (gm_un (by decide))) hi (by omega)) me_Ro_doneAfter ml_We_79 mn_Ro_doneAfter _ (gx_w_at (by decide) (gm_r ((gm_un (by decide)).trans hra.1))) rfl dd_We_leave_31 (kk := fun v w hq => ?_)
      obtain ⟨rfl, rfl⟩ := hq
      rcases hd1 : ro_dn La.reverse i (x.1 / 128 % 8) with _ | i2
      · refine gx_istore C _ dd_We_leave_34 (kk := ?_)
        refine gx_aload_n C 3 dd_We_leave_36 (kk := ?_)
        refine gx_get C fd_We_18 (gm_r ((gm_un (by decide)).trans hc31)) dd_We_leave_37 (kk := ?_)
        refine gx_iload_n C 6 dd_We_leave_40 (kk := ?_)
        refine gx_iload C 1 dd_We_leave_41 (kk := ?_)
        refine gx_callS C (ct_WM_outOf (gx_l K) D dA _ x.1 (by omega)) me_WM_outOf ml_We_82 ms_WM_outOf dd_We_leave_43 (kk := fun v w hq => ?_)
        obtain ⟨rfl, rfl⟩ := hq
        refine gx_callV C (ct_Ro_doneAfter (gx_l K) D dA ad mm (va_up r 36 (.inl (dA 1, 1296, .inr (.inl f1)))) (qo := 34) (qa := 35) (i := j) (b := x.1 / 16 % 8) (by decide) (by decide) (by decide) (by decide) (ro_at_keep hrb (gm_un (by decide)) (gm_un (by decide))) hj (by omega)) me_Ro_doneAfter ml_We_79 mn_Ro_doneAfter _ (gx_w_at (by decide) (gm_r ((gm_un (by decide)).trans hrb.1))) rfl dd_We_leave_46 (kk := fun v w hq => ?_)
        obtain ⟨rfl, rfl⟩ := hq
        rcases hd2 : ro_dn Lb.reverse j (x.1 / 16 % 8) with _ | j2
        · refine gx_istore C _ dd_We_leave_49 (kk := ?_)
          refine gx_iload C 2 dd_We_leave_51 (kk := ?_)
          refine gx_callS C (ct_WM_labelsOf (gx_l K) D dA _ x.1 (by omega)) me_WM_labelsOf ml_We_85 ms_WM_labelsOf dd_We_leave_53 (kk := fun v w hq => ?_)
          obtain ⟨rfl, rfl⟩ := hq
          refine gx_if_eq C 131 dd_We_leave_56 (fun h56 => ?_) (fun h56 => ?_)
          · refine gx_iinc C 3 (nI (k + 1)) _ dd_We_leave_131 (nI_1 k) (kk := ?_)
            refine gx_goto C 3 dd_We_leave_134 (kk := ?_)
            refine gx_loc [0, 4, 5, 6, 7] ?_
            rw [show (0 : Int32) = nI 0 from rfl, nI_eq (by omega) (by decide)] at h56
            have hno : we_x La.reverse Lb.reverse i j x = none := by
              unfold we_x
              rw [if_pos h56]
            exact ih (k + 1) v1 f1 (by omega) (by rw [we_L_s hx, hno, hv1]; simp) hf1 (sp_b_mono hB1 (by omega))
          · refine gx_iload C 1 dd_We_leave_59 (kk := ?_)
            refine gx_iconst (v := -1) C dd_We_leave_61 (kk := ?_)
            refine gx_icmp_eq C 131 dd_We_leave_62 (fun h62 => ?_) (fun h62 => absurd rfl h62)
            refine gx_iinc C 3 (nI (k + 1)) _ dd_We_leave_131 (nI_1 k) (kk := ?_)
            refine gx_goto C 3 dd_We_leave_134 (kk := ?_)
            refine gx_loc [0, 4, 5, 6, 7] ?_
            rw [show (0 : Int32) = nI 0 from rfl, nI_eq (by omega) (by decide)] at h56
            have hno : we_x La.reverse Lb.reverse i j x = none := by
              unfold we_x
              rw [if_neg h56]
              unfold we_xf
              rw [hd1]
            exact ih (k + 1) v1 f1 (by omega) (by rw [we_L_s hx, hno, hv1]; simp) hf1 (sp_b_mono hB1 (by omega))
        · have hj2 := (ro_dn_le (A := Lb.reverse) (by simpa using hj) hd2).2
          rw [List.length_reverse] at hj2
          refine gx_istore C _ dd_We_leave_49 (kk := ?_)
          refine gx_iload C 2 dd_We_leave_51 (kk := ?_)
          refine gx_callS C (ct_WM_labelsOf (gx_l K) D dA _ x.1 (by omega)) me_WM_labelsOf ml_We_85 ms_WM_labelsOf dd_We_leave_53 (kk := fun v w hq => ?_)
          obtain ⟨rfl, rfl⟩ := hq
          refine gx_if_eq C 131 dd_We_leave_56 (fun h56 => ?_) (fun h56 => ?_)
          · refine gx_iinc C 3 (nI (k + 1)) _ dd_We_leave_131 (nI_1 k) (kk := ?_)
            refine gx_goto C 3 dd_We_leave_134 (kk := ?_)
            refine gx_loc [0, 4, 5, 6, 7] ?_
            rw [show (0 : Int32) = nI 0 from rfl, nI_eq (by omega) (by decide)] at h56
            have hno : we_x La.reverse Lb.reverse i j x = none := by
              unfold we_x
              rw [if_pos h56]
            exact ih (k + 1) v1 f1 (by omega) (by rw [we_L_s hx, hno, hv1]; simp) hf1 (sp_b_mono hB1 (by omega))
          · refine gx_iload C 1 dd_We_leave_59 (kk := ?_)
            refine gx_iconst (v := -1) C dd_We_leave_61 (kk := ?_)
            refine gx_icmp_eq C 131 dd_We_leave_62 (fun h62 => ?_) (fun h62 => absurd rfl h62)
            refine gx_iinc C 3 (nI (k + 1)) _ dd_We_leave_131 (nI_1 k) (kk := ?_)
            refine gx_goto C 3 dd_We_leave_134 (kk := ?_)
            refine gx_loc [0, 4, 5, 6, 7] ?_
            rw [show (0 : Int32) = nI 0 from rfl, nI_eq (by omega) (by decide)] at h56
            have hno : we_x La.reverse Lb.reverse i j x = none := by
              unfold we_x
              rw [if_neg h56]
              unfold we_xf
              rw [hd1]
            exact ih (k + 1) v1 f1 (by omega) (by rw [we_L_s hx, hno, hv1]; simp) hf1 (sp_b_mono hB1 (by omega))
      · have hi2 := (ro_dn_le (A := La.reverse) (by simpa using hi) hd1).2
        rw [List.length_reverse] at hi2
        refine gx_istore C _ dd_We_leave_34 (kk := ?_)
        refine gx_aload_n C 3 dd_We_leave_36 (kk := ?_)
        refine gx_get C fd_We_18 (gm_r ((gm_un (by decide)).trans hc31)) dd_We_leave_37 (kk := ?_)
        refine gx_iload_n C 6 dd_We_leave_40 (kk := ?_)
        refine gx_iload C 1 dd_We_leave_41 (kk := ?_)
        refine gx_callS C (ct_WM_outOf (gx_l K) D dA _ x.1 (by omega)) me_WM_outOf ml_We_82 ms_WM_outOf dd_We_leave_43 (kk := fun v w hq => ?_)
        obtain ⟨rfl, rfl⟩ := hq
        refine gx_callV C (ct_Ro_doneAfter (gx_l K) D dA ad mm (va_up r 36 (.inl (dA 1, 1296, .inr (.inl f1)))) (qo := 34) (qa := 35) (i := j) (b := x.1 / 16 % 8) (by decide) (by decide) (by decide) (by decide) (ro_at_keep hrb (gm_un (by decide)) (gm_un (by decide))) hj (by omega)) me_Ro_doneAfter ml_We_79 mn_Ro_doneAfter _ (gx_w_at (by decide) (gm_r ((gm_un (by decide)).trans hrb.1))) rfl dd_We_leave_46 (kk := fun v w hq => ?_)
        obtain ⟨rfl, rfl⟩ := hq
        rcases hd2 : ro_dn Lb.reverse j (x.1 / 16 % 8) with _ | j2
        · refine gx_istore C _ dd_We_leave_49 (kk := ?_)
          refine gx_iload C 2 dd_We_leave_51 (kk := ?_)
          refine gx_callS C (ct_WM_labelsOf (gx_l K) D dA _ x.1 (by omega)) me_WM_labelsOf ml_We_85 ms_WM_labelsOf dd_We_leave_53 (kk := fun v w hq => ?_)
          obtain ⟨rfl, rfl⟩ := hq
          refine gx_if_eq C 131 dd_We_leave_56 (fun h56 => ?_) (fun h56 => ?_)
          · refine gx_iinc C 3 (nI (k + 1)) _ dd_We_leave_131 (nI_1 k) (kk := ?_)
            refine gx_goto C 3 dd_We_leave_134 (kk := ?_)
            refine gx_loc [0, 4, 5, 6, 7] ?_
            rw [show (0 : Int32) = nI 0 from rfl, nI_eq (by omega) (by decide)] at h56
            have hno : we_x La.reverse Lb.reverse i j x = none := by
              unfold we_x
              rw [if_pos h56]
            exact ih (k + 1) v1 f1 (by omega) (by rw [we_L_s hx, hno, hv1]; simp) hf1 (sp_b_mono hB1 (by omega))
          · refine gx_iload C 1 dd_We_leave_59 (kk := ?_)
            refine gx_iconst (v := -1) C dd_We_leave_61 (kk := ?_)
            refine gx_icmp_eq C 131 dd_We_leave_62 (fun h62 => absurd h62 (nI_m1 (by omega))) (fun h62 => ?_)
            refine gx_iload C 0 dd_We_leave_65 (kk := ?_)
            refine gx_iconst (v := -1) C dd_We_leave_67 (kk := ?_)
            refine gx_icmp_eq C 131 dd_We_leave_68 (fun h68 => ?_) (fun h68 => absurd rfl h68)
            refine gx_iinc C 3 (nI (k + 1)) _ dd_We_leave_131 (nI_1 k) (kk := ?_)
            refine gx_goto C 3 dd_We_leave_134 (kk := ?_)
            refine gx_loc [0, 4, 5, 6, 7] ?_
            rw [show (0 : Int32) = nI 0 from rfl, nI_eq (by omega) (by decide)] at h56
            have hno : we_x La.reverse Lb.reverse i j x = none := by
              unfold we_x
              rw [if_neg h56]
              unfold we_xf
              rw [hd1, hd2]
            exact ih (k + 1) v1 f1 (by omega) (by rw [we_L_s hx, hno, hv1]; simp) hf1 (sp_b_mono hB1 (by omega))
        · have hj2 := (ro_dn_le (A := Lb.reverse) (by simpa using hj) hd2).2
          rw [List.length_reverse] at hj2
          refine gx_istore C _ dd_We_leave_49 (kk := ?_)
          refine gx_iload C 2 dd_We_leave_51 (kk := ?_)
          refine gx_callS C (ct_WM_labelsOf (gx_l K) D dA _ x.1 (by omega)) me_WM_labelsOf ml_We_85 ms_WM_labelsOf dd_We_leave_53 (kk := fun v w hq => ?_)
          obtain ⟨rfl, rfl⟩ := hq
          refine gx_if_eq C 131 dd_We_leave_56 (fun h56 => ?_) (fun h56 => ?_)
          · refine gx_iinc C 3 (nI (k + 1)) _ dd_We_leave_131 (nI_1 k) (kk := ?_)
            refine gx_goto C 3 dd_We_leave_134 (kk := ?_)
            refine gx_loc [0, 4, 5, 6, 7] ?_
            rw [show (0 : Int32) = nI 0 from rfl, nI_eq (by omega) (by decide)] at h56
            have hno : we_x La.reverse Lb.reverse i j x = none := by
              unfold we_x
              rw [if_pos h56]
            exact ih (k + 1) v1 f1 (by omega) (by rw [we_L_s hx, hno, hv1]; simp) hf1 (sp_b_mono hB1 (by omega))
          · refine gx_iload C 1 dd_We_leave_59 (kk := ?_)
            refine gx_iconst (v := -1) C dd_We_leave_61 (kk := ?_)
            refine gx_icmp_eq C 131 dd_We_leave_62 (fun h62 => absurd h62 (nI_m1 (by omega))) (fun h62 => ?_)
            refine gx_iload C 0 dd_We_leave_65 (kk := ?_)
            refine gx_iconst (v := -1) C dd_We_leave_67 (kk := ?_)
            refine gx_icmp_eq C 131 dd_We_leave_68 (fun h68 => absurd h68 (nI_m1 (by omega))) (fun h68 => ?_)
            refine gx_iload C 1 dd_We_leave_71 (kk := ?_)
            refine gx_iload C 0 dd_We_leave_73 (kk := ?_)
            refine gx_callS C (ct_We_baseOf (gx_l K) D dA _ i2 j2) me_We_baseOf ml_We_52 ms_We_baseOf dd_We_leave_75 (kk := fun v w hq => ?_)
            obtain ⟨rfl, rfl⟩ := hq
            refine gx_iload C 2 dd_We_leave_78 (kk := ?_)
            refine gx_callS C (ct_WM_toOf (gx_l K) D dA _ x.1 (by omega)) me_WM_toOf ml_We_88 ms_WM_toOf dd_We_leave_80 (kk := fun v w hq => ?_)
            obtain ⟨rfl, rfl⟩ := hq
            refine gx_iadd C dd_We_leave_83 (kk := ?_)
            refine gx_topi _ (nI_add _ _) ?_
            refine gx_istore C _ dd_We_leave_84 (kk := ?_)
            refine gx_aload_n C 5 dd_We_leave_86 (kk := ?_)
            refine gx_get C fd_We_21 (gm_r ((gm_un (by decide)).trans hc31)) dd_We_leave_87 (kk := ?_)
            refine gx_iload_n C 7 dd_We_leave_90 (kk := ?_)
            refine gx_iload_n C 8 dd_We_leave_91 (kk := ?_)
            refine gx_callS C (ct_We_baseOf (gx_l K) D dA _ i j) me_We_baseOf ml_We_52 ms_We_baseOf dd_We_leave_92 (kk := fun v w hq => ?_)
            obtain ⟨rfl, rfl⟩ := hq
            refine gx_iload C 3 dd_We_leave_95 (kk := ?_)
            refine gx_callS C (ct_WM_fromOf (gx_l K) D dA _ x.1 (by omega)) me_WM_fromOf ml_We_91 ms_WM_fromOf dd_We_leave_97 (kk := fun v w hq => ?_)
            obtain ⟨rfl, rfl⟩ := hq
            refine gx_iadd C dd_We_leave_100 (kk := ?_)
            refine gx_topi _ (nI_add _ _) ?_
            refine gz_laload C gm_us dd_We_leave_101 (by omega) (kk := ?_)
            refine gx_topl _ (hf1 _ (by omega)) ?_
            refine gx_aload_n C 6 dd_We_leave_102 (kk := ?_)
            refine gm_get C fd_We_94 (by assumption) dd_We_leave_103 (kk := ?_)
            refine gx_iload C 4 dd_We_leave_106 (kk := ?_)
            refine gm_ln_g C hia dd_We_leave_108 (by omega) (kk := ?_)
            refine gx_topl _ hx2 ?_
            refine gx_ladd C dd_We_leave_109 (kk := ?_)
            refine gx_lstore C _ dd_We_leave_110 (kk := ?_)
            refine gx_aload_n C 6 dd_We_leave_112 (kk := ?_)
            refine gx_get C fd_We_21 (gm_r ((gm_un (by decide)).trans hc31)) dd_We_leave_113 (kk := ?_)
            refine gx_iload C 1 dd_We_leave_116 (kk := ?_)
            refine gx_aload_n C 6 dd_We_leave_118 (kk := ?_)
            refine gx_get C fd_We_21 (gm_r ((gm_un (by decide)).trans hc31)) dd_We_leave_119 (kk := ?_)
            refine gx_iload C 1 dd_We_leave_122 (kk := ?_)
            refine gz_laload C gm_us dd_We_leave_124 (by omega) (kk := ?_)
            refine gx_topl _ (hf1 _ (by omega)) ?_
            refine gx_lload C 0 dd_We_leave_125 (kk := ?_)
            refine gx_min C ml_We_97 dd_We_leave_127 (kk := ?_)
            refine gx_topl _ (we_min (fun y hy => by have := hB1 _ _ hy; omega) (fun y hy => by have := hB1 _ _ hy; omega) (by omega)) ?_
            refine gz_lastore C gm_us dd_We_leave_130 (by omega) (kk := fun r2 hr2 => ?_)
            refine gx_iinc C 5 (nI (k + 1)) _ dd_We_leave_131 (nI_1 k) (kk := ?_)
            refine gx_goto C 3 dd_We_leave_134 (kk := ?_)
            refine gx_loc [0, 6, 7, 8, 9] ?_
            rw [show (0 : Int32) = nI 0 from rfl, nI_eq (by omega) (by decide)] at h56
            have hyes : we_x La.reverse Lb.reverse i j x = some ((i * 9 + j) * 16 + x.1 / 1024, (i2 * 9 + j2) * 16 + x.1 % 16, x.2) := by
              unfold we_x
              rw [if_neg h56]
              unfold we_xf
              rw [hd1, hd2]
            subst hr2
            rw [gm_uu]
            refine ih (k + 1) (ls_rx v1 ((i * 9 + j) * 16 + x.1 / 1024, (i2 * 9 + j2) * 16 + x.1 % 16, x.2)) _ (by omega) (by rw [we_L_s hx, hyes, hv1]; exact (ls_rd_s _ _ _).symm) ?_ (sp_b_mono (sp_b_rx (w := 1000000001) hB1 (Nat.le_of_lt hxw)) (by omega))
            intro t ht
            rw [we_rx_at]
            by_cases h1 : t = (i2 * 9 + j2) * 16 + x.1 % 16
            · rw [if_pos h1, h1, pk_uLs]
            · rw [if_neg h1, pk_uLn h1]
              exact hf1 t ht
  refine gx_iconst (v := nI 0) C dd_We_leave_0 (kk := ?_)
  refine gx_istore C _ dd_We_leave_1 (kk := ?_)
  refine gx_wld ?_ (loop (am_ar a).length 0 v0 f (by omega) rfl hf (by simpa using hB))
  rw [← hc36, gm_ue]
set_option maxRecDepth 100000 in
set_option maxHeartbeats 4000000 in
theorem ct_We_leastEnd (l : Launch) (D : va_G) (dA : Nat → ClassId) (ad : Nat → Nat) (mm : Nat → gm_V) (r : Nat → va_E) {ia base : Nat} {a : am_T} {nv : ls_V} (hia : ia < 5) (hMa : gm_is (mm ia) a) (hba : am_b 1000000001 a) (hc31 : r 31 = .inr (9, [.ref (ad 32), .ref (ad 34), .ref (ad 36)])) {f : Nat → Int64} (hc36 : r 36 = .inl (dA 1, 1296, .inr (.inl f))) (hf : we_in f nv) (hB : sp_b 400000000000000000 nv) (hbase : base + 16 ≤ 1296) : gx_Ct l D dA yy_We_leastEnd cc_We_leastEnd 6 (some .long) 1 0 0 [.ref (ad 31), .ref (ad (2 + 4 * ia)), .int (nI base)] (gx_w ad (gm_h dA ad mm r)) (fun v w => v = some (.long (am_f (ba_le (fun q => nv (base + q)) (am_en a) (am_n a)))) ∧ w = (gx_w ad (gm_h dA ad mm r))) := by
  refine gx_of (by decide) (Nat.le_of_ble_eq_true rfl) (fun K C _ _ => ?_)
  have hn16 := hba.1
  have loop : ∀ m q, q + m = am_n a → gx_G K D 6 0 0 7 [(5, .int (nI q)), (3, .long (am_f (ba_le (fun q => nv (base + q)) (am_en a) q))), (0, .ref (ad 31)), (1, .ref (ad (2 + 4 * ia))), (2, .int (nI base))] [] (gx_w ad (gm_h dA ad mm r)) (gx_Z K D dA 0 0 (fun v w => v = some (.long (am_f (ba_le (fun q => nv (base + q)) (am_en a) (am_n a)))) ∧ w = (gx_w ad (gm_h dA ad mm r)))) := by
    intro m
    induction m with
    | zero =>
      intro q hq
      refine gx_iload C 0 dd_We_leastEnd_7 (kk := ?_)
      refine gx_aload_n C 3 dd_We_leastEnd_9 (kk := ?_)
      refine gm_get C fd_We_103 hia dd_We_leastEnd_10 (kk := ?_)
      refine gx_topi _ hMa.1 ?_
      refine gx_icmp_ge C 43 dd_We_leastEnd_13 (fun h13 => ?_) (fun h13 => absurd (nI_le (a := am_n a) (b := q) (by omega) (by omega)) h13)
      refine gx_lload_n C 1 dd_We_leastEnd_43 (kk := ?_)
      refine gx_lret C dd_We_leastEnd_44 ?_
      rw [show q = am_n a by omega]
      exact ⟨rfl, rfl⟩
    | succ m ih =>
      intro q hq
      refine gx_iload C 0 dd_We_leastEnd_7 (kk := ?_)
      refine gx_aload_n C 3 dd_We_leastEnd_9 (kk := ?_)
      refine gm_get C fd_We_103 hia dd_We_leastEnd_10 (kk := ?_)
      refine gx_topi _ hMa.1 ?_
      refine gx_icmp_ge C 43 dd_We_leastEnd_13 (fun h13 => absurd h13 (nI_ge (by omega) (by omega))) (fun h13 => ?_)
      refine gx_lload_n C 1 dd_We_leastEnd_16 (kk := ?_)
      refine gx_aload_n C 2 dd_We_leastEnd_17 (kk := ?_)
      refine gx_get C fd_We_21 (gm_r hc31) dd_We_leastEnd_18 (kk := ?_)
      refine gx_iload_n C 4 dd_We_leastEnd_21 (kk := ?_)
      refine gx_iload C 0 dd_We_leastEnd_22 (kk := ?_)
      refine gx_iadd C dd_We_leastEnd_24 (kk := ?_)
      refine gx_topi _ (nI_add _ _) ?_
      refine gz_laload C hc36 dd_We_leastEnd_25 (by omega) (kk := ?_)
      refine gx_topl (am_f (nv (base + q))) (hf _ (by omega)) ?_
      refine gx_aload_n C 3 dd_We_leastEnd_26 (kk := ?_)
      refine gx_iload C 0 dd_We_leastEnd_27 (kk := ?_)
      refine gx_callV C (ct_Ma_endOrFar (gx_l K) D dA ad mm r (q := q) hia (by omega) hMa (fun q e he => Nat.lt_trans (hba.2.2.2.1 q e he) (by decide))) me_Ma_endOrFar ml_We_106 mn_Ma_endOrFar _ (gx_w_at (by omega) (gm_at (j := 0) hia (by decide))) rfl dd_We_leastEnd_29 (kk := fun v w hq => ?_)
      obtain ⟨rfl, rfl⟩ := hq
      refine gx_ladd C dd_We_leastEnd_32 (kk := ?_)
      refine gx_min C ml_We_97 dd_We_leastEnd_33 (kk := ?_)
      refine gx_topl (am_f (ba_le (fun q => nv (base + q)) (am_en a) (q + 1))) (om_f (x := nv (base + q)) (fun a h => Nat.lt_of_lt_of_le (hB _ a h) (by decide)) (fun e h => Nat.lt_trans (hba.2.2.2.1 _ e h) (by decide)) (fun e h => Nat.lt_of_lt_of_le (ba_le_b (v := fun q => nv (base + q)) (B := 400000000000000000) (fun q x h => hB _ x h) (fun q e h => Nat.lt_trans (hba.2.2.2.1 q e h) (by decide)) q e h) (by decide))) ?_
      refine gx_lstore_n C _ dd_We_leastEnd_36 (kk := ?_)
      refine gx_iinc C 1 (nI (q + 1)) _ dd_We_leastEnd_37 (nI_1 q) (kk := ?_)
      refine gx_goto C 7 dd_We_leastEnd_40 (kk := ?_)
      exact ih (q + 1) (by omega)
  refine gx_ldc2 C dd_We_leastEnd_0 kc_We_37 (kk := ?_)
  refine gx_lstore_n C _ dd_We_leastEnd_3 (kk := ?_)
  refine gx_iconst (v := nI 0) C dd_We_leastEnd_4 (kk := ?_)
  refine gx_istore C _ dd_We_leastEnd_5 (kk := ?_)
  exact loop (am_n a) 0 (by omega)
