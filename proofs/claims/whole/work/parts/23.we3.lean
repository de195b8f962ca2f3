theorem we_endc {A B : List Nat} {l : List (Nat × Nat)} {v0 v : ls_V} {c : Nat} (hc : ∀ i j, i ≤ A.length → j ≤ B.length → i * 9 + j < c) (h : we_I A B l v0 c v) : ls_fix (we_E A B l) v0 v := by
  refine ⟨h.1, fun e he => ?_, h.2.1⟩
  obtain ⟨i, j, x, hi, hj, hx, hxe⟩ := we_E_mem.mp he
  exact h.2.2 i j x e hi hj (hc i j hi hj) hx hxe
theorem we_I0 (A B : List Nat) (l : List (Nat × Nat)) (v0 : ls_V) : we_I A B l v0 (0 * 9 + 0) v0 := ⟨ls_vrf _, fun _ h _ => h, fun i j x e _ _ h => by omega⟩
theorem we_put_b {v u : ls_V} {b B C : Nat} (hv : sp_b B v) (hu : sp_b C u) (h : B ≤ C) : sp_b C (we_put v b u) := by
  intro t x hx
  unfold we_put at hx
  split at hx
  · exact hu _ _ hx
  · exact Nat.lt_of_lt_of_le (hv _ _ hx) h
theorem we_get_b {v : ls_V} {b B : Nat} (hv : sp_b B v) : sp_b B (we_get v b) := by
  intro t x hx
  unfold we_get at hx
  split at hx
  · exact hv _ _ hx
  · cases hx
def we_ok (dA : Nat → ClassId) (ad : Nat → Nat) (r : Nat → va_E) : Prop := r 31 = .inr (9, [.ref (ad 32), .ref (ad 34), .ref (ad 36)]) ∧ (∃ L, ro_at dA ad r 32 33 L) ∧ (∃ L, ro_at dA ad r 34 35 L) ∧ ∃ f, r 36 = .inl (dA 1, 1296, .inr (.inl f))
set_option maxRecDepth 100000 in
set_option maxHeartbeats 4000000 in
theorem ct_We_leastWeight (l : Launch) (D : va_G) (dA : Nat → ClassId) (ad : Nat → Nat) (mm : Nat → gm_V) (r : Nat → va_E) {ia : Nat} {a : am_T} (hia : ia < 5) (hMa : gm_is (mm ia) a) (hba : am_b 1000000001 a) (hnd : ∀ x ∈ am_ar a, x.1 / 1024 < am_n a ∧ x.1 % 16 < am_n a) {x y : Int32} (hok : we_ok dA ad r) : gx_Ct l D dA yy_We_leastWeight cc_We_leastWeight 6 (some .long) 2 0 0 [.ref (ad 31), .ref (ad (2 + 4 * ia)), .int x, .int y] (gx_w ad (gm_h dA ad mm r)) (fun v w => ∃ r2, w = gx_w ad (gm_h dA ad mm r2) ∧ v = some (.long (am_e (we_an a x y))) ∧ we_ok dA ad r2 ∧ ∀ k, k < 31 ∨ 36 < k → r2 k = r k) := by
  refine gx_of (by decide) (Nat.le_of_ble_eq_true rfl) (fun K C _ _ => ?_)
  have hn16 := hba.1
  obtain ⟨⟨La0, hLa0⟩, ⟨Lb0, hLb0⟩, f0, hf0⟩ := hok.2
  obtain ⟨fa0, hfa0, -⟩ := hLa0.2.1
  refine gx_aload_n C 0 dd_We_leastWeight_0 (kk := ?_)
  refine gx_get C fd_We_12 (gm_r hok.1) dd_We_leastWeight_1 (kk := ?_)
  refine gx_iload_n C 2 dd_We_leastWeight_4 (kk := ?_)
  refine gx_callV C (ct_Ro_take (gx_l K) D dA ad mm r (qo := 32) (qa := 33) (num := x) (by decide) (by decide) (by decide) (by decide) (by decide) hLa0.1 hfa0) me_Ro_take ml_We_25 mn_Ro_take _ (gx_w_at (by decide) (gm_r hLa0.1)) rfl dd_We_leastWeight_5 (kk := fun v w hq => ?_)
  obtain ⟨r1, rfl, kr1, hq⟩ := hq
  rcases hxo : ro_of x with _ | La
  · rw [hxo] at hq
    obtain ⟨hv, L1, hL1⟩ := hq
    subst hv
    have k31a := (kr1 31 (by decide) (by decide)).trans hok.1
    have k36a := (kr1 36 (by decide) (by decide)).trans hf0
    have kb0 : ro_at dA ad r1 34 35 Lb0 := ro_at_keep hLb0 (kr1 34 (by decide) (by decide)) (kr1 35 (by decide) (by decide))
    have ok1 : we_ok dA ad r1 := ⟨k31a, ⟨L1, hL1⟩, ⟨Lb0, kb0⟩, f0, k36a⟩
    refine gx_if_eq C 30 dd_We_leastWeight_8 (fun h8 => ?_) (fun h8 => absurd rfl h8)
    refine gx_ldc2 C dd_We_leastWeight_30 kc_We_35 (kk := ?_)
    refine gx_lret C dd_We_leastWeight_33 ?_
    refine ⟨r1, rfl, ?_, ok1, fun k hk => kr1 k (by omega) (by omega)⟩
    unfold we_an
    rw [hxo]
    rfl
  · rw [hxo] at hq
    obtain ⟨hv, ka0⟩ := hq
    subst hv
    have k31a := (kr1 31 (by decide) (by decide)).trans hok.1
    have k36a := (kr1 36 (by decide) (by decide)).trans hf0
    have kb0 : ro_at dA ad r1 34 35 Lb0 := ro_at_keep hLb0 (kr1 34 (by decide) (by decide)) (kr1 35 (by decide) (by decide))
    obtain ⟨fb0, hfb0, -⟩ := kb0.2.1
    refine gx_if_eq C 30 dd_We_leastWeight_8 (fun h8 => absurd h8 (by decide)) (fun h8 => ?_)
    refine gx_aload_n C 0 dd_We_leastWeight_11 (kk := ?_)
    refine gx_get C fd_We_18 (gm_r k31a) dd_We_leastWeight_12 (kk := ?_)
    refine gx_iload_n C 3 dd_We_leastWeight_15 (kk := ?_)
    refine gx_callV C (ct_Ro_take (gx_l K) D dA ad mm r1 (qo := 34) (qa := 35) (num := y) (by decide) (by decide) (by decide) (by decide) (by decide) kb0.1 hfb0) me_Ro_take ml_We_25 mn_Ro_take _ (gx_w_at (by decide) (gm_r kb0.1)) rfl dd_We_leastWeight_16 (kk := fun v w hq => ?_)
    obtain ⟨r2, rfl, kr2, hq⟩ := hq
    rcases hyo : ro_of y with _ | Lb
    · rw [hyo] at hq
      obtain ⟨hv, L1, hL1⟩ := hq
      subst hv
      have k31 := (kr2 31 (by decide) (by decide)).trans k31a
      have k36 := (kr2 36 (by decide) (by decide)).trans k36a
      have ka : ro_at dA ad r2 32 33 La := ro_at_keep ka0 (kr2 32 (by decide) (by decide)) (kr2 33 (by decide) (by decide))
      have ko : ∀ k, k < 31 ∨ 36 < k → r2 k = r k := fun k hk => (kr2 k (by omega) (by omega)).trans (kr1 k (by omega) (by omega))
      have ok2 : we_ok dA ad r2 := ⟨k31, ⟨La, ka⟩, ⟨L1, hL1⟩, f0, k36⟩
      refine gx_if_eq C 30 dd_We_leastWeight_19 (fun h19 => ?_) (fun h19 => absurd rfl h19)
      refine gx_ldc2 C dd_We_leastWeight_30 kc_We_35 (kk := ?_)
      refine gx_lret C dd_We_leastWeight_33 ?_
      refine ⟨r2, rfl, ?_, ok2, ko⟩
      unfold we_an
      rw [hxo, hyo]
      rfl
    · rw [hyo] at hq
      obtain ⟨hv, kb⟩ := hq
      subst hv
      have k31 := (kr2 31 (by decide) (by decide)).trans k31a
      have k36 := (kr2 36 (by decide) (by decide)).trans k36a
      have ka : ro_at dA ad r2 32 33 La := ro_at_keep ka0 (kr2 32 (by decide) (by decide)) (kr2 33 (by decide) (by decide))
      have ko : ∀ k, k < 31 ∨ 36 < k → r2 k = r k := fun k hk => (kr2 k (by omega) (by omega)).trans (kr1 k (by omega) (by omega))
      have ok2 : we_ok dA ad r2 := ⟨k31, ⟨La, ka⟩, ⟨Lb, kb⟩, f0, k36⟩
      refine gx_if_eq C 30 dd_We_leastWeight_19 (fun h19 => absurd h19 (by decide)) (fun h19 => ?_)
      rcases hst : am_st a with _ | s
      · have hqa := hMa.2.1
        rw [hst] at hqa
        refine gx_aload_n C 1 dd_We_leastWeight_22 (kk := ?_)
        refine gm_get C fd_We_29 hia dd_We_leastWeight_23 (kk := ?_)
        refine gx_topi _ hqa.1 ?_
        refine gx_iconst (v := -1) C dd_We_leastWeight_26 (kk := ?_)
        refine gx_icmp_ne C 34 dd_We_leastWeight_27 (fun h27 => absurd rfl h27) (fun h27 => ?_)
        refine gx_ldc2 C dd_We_leastWeight_30 kc_We_35 (kk := ?_)
        refine gx_lret C dd_We_leastWeight_33 ?_
        refine ⟨r2, rfl, ?_, ok2, ko⟩
        unfold we_an
        rw [hxo, hyo, hst]
        rfl
      · have hqa := hMa.2.1
        rw [hst] at hqa
        obtain ⟨hs16, hsw⟩ := hba.2.2.2.2 s hst
        have hla8 := ka.2.2.1
        have hlb8 := kb.2.2.1
        have loop : ∀ m i v1 f1, i + m = La.length + 1 → we_I La.reverse Lb.reverse (am_ar a) (we_v0 s.1 s.2) (i * 9 + 0) v1 → we_in f1 v1 → sp_b (1000000001 + (i * 9 + 0) * 1088000001088) v1 → gx_G K D 6 0 0 60 [(4, .int (nI i)), (0, .ref (ad 31)), (1, .ref (ad (2 + 4 * ia))), (2, .int x), (3, .int y)] [] (gx_w ad (gm_h dA ad mm (va_up r2 36 (.inl (dA 1, 1296, .inr (.inl f1)))))) (gx_Z K D dA 0 0 (fun v w => ∃ r2, w = gx_w ad (gm_h dA ad mm r2) ∧ v = some (.long (am_e (we_an a x y))) ∧ we_ok dA ad r2 ∧ ∀ k, k < 31 ∨ 36 < k → r2 k = r k)) := by
          intro m
          induction m with
          | zero =>
            intro i v1 f1 hm hI hf1 hB1
            refine gx_iload C 0 dd_We_leastWeight_60 (kk := ?_)
            refine gx_aload_n C 1 dd_We_leastWeight_62 (kk := ?_)
            refine gx_get C fd_We_12 (gm_r ((gm_un (by decide)).trans k31)) dd_We_leastWeight_63 (kk := ?_)
            refine gx_get C fd_We_49 (gm_r ((gm_un (by decide)).trans ka.1)) dd_We_leastWeight_66 (kk := ?_)
            refine gx_icmp_gt C 123 dd_We_leastWeight_69 (fun h69 => ?_) (fun h69 => absurd ((nI_ltI (by omega) (by omega)).mpr (show La.length < i by omega)) h69)
            have hfixE := we_endc (c := i * 9 + 0) (fun i1 j1 a1 b1 => by rw [List.length_reverse] at a1 b1; omega) hI
            have hVV : v1 = we_V La.reverse Lb.reverse (am_ar a) s.1 s.2 := ls_one hfixE (ls_it_fix (we_E_lt (by rw [List.length_reverse]; exact ka.2.2.1) (by rw [List.length_reverse]; exact kb.2.2.1) (fun x hx => (hba.2.2.1 x hx).1)) (by omega))
            have hB2 : sp_b 400000000000000000 v1 := sp_b_mono hB1 (by omega)
            have hlt : ∀ e, ba_le (fun q => v1 ((La.length * 9 + Lb.length) * 16 + q)) (am_en a) (am_n a) = some e → e < 2 ^ 60 := fun e h => Nat.lt_of_lt_of_le (ba_le_b (v := fun q => v1 ((La.length * 9 + Lb.length) * 16 + q)) (B := 400000000000000000) (fun q x h => hB2 _ x h) (fun q e h => Nat.lt_trans (hba.2.2.2.1 q e h) (by decide)) _ e h) (by decide)
            refine gx_aload_n C 1 dd_We_leastWeight_123 (kk := ?_)
            refine gx_aload_n C 2 dd_We_leastWeight_124 (kk := ?_)
            refine gx_aload_n C 1 dd_We_leastWeight_125 (kk := ?_)
            refine gx_get C fd_We_12 (gm_r ((gm_un (by decide)).trans k31)) dd_We_leastWeight_126 (kk := ?_)
            refine gx_get C fd_We_49 (gm_r ((gm_un (by decide)).trans ka.1)) dd_We_leastWeight_129 (kk := ?_)
            refine gx_aload_n C 1 dd_We_leastWeight_132 (kk := ?_)
            refine gx_get C fd_We_18 (gm_r ((gm_un (by decide)).trans k31)) dd_We_leastWeight_133 (kk := ?_)
            refine gx_get C fd_We_49 (gm_r ((gm_un (by decide)).trans kb.1)) dd_We_leastWeight_136 (kk := ?_)
            refine gx_callS C (ct_We_baseOf (gx_l K) D dA _ La.length Lb.length) me_We_baseOf ml_We_52 ms_We_baseOf dd_We_leastWeight_139 (kk := fun v w hq => ?_)
            obtain ⟨rfl, rfl⟩ := hq
            refine gx_callV C (ct_We_leastEnd (gx_l K) D dA ad mm (va_up r2 36 (.inl (dA 1, 1296, .inr (.inl f1)))) (base := (La.length * 9 + Lb.length) * 16) (nv := v1) hia hMa hba ((gm_un (by decide)).trans k31) gm_us hf1 hB2 (by omega)) me_We_leastEnd ml_We_64 mn_We_leastEnd _ (gx_w_at (by decide) (gm_r ((gm_un (by decide)).trans k31))) rfl dd_We_leastWeight_142 (kk := fun v w hq => ?_)
            obtain ⟨rfl, rfl⟩ := hq
            refine gx_lstore C _ dd_We_leastWeight_145 (kk := ?_)
            refine gx_lload C 0 dd_We_leastWeight_147 (kk := ?_)
            refine gx_ldc2 C dd_We_leastWeight_149 kc_We_37 (kk := ?_)
            refine gx_lcmp C dd_We_leastWeight_152 (kk := ?_)
            refine gx_if_ge C 161 dd_We_leastWeight_153 (fun h153 => ?_) (fun h153 => ?_)
            · refine gx_ldc2 C dd_We_leastWeight_161 kc_We_35 (kk := ?_)
              refine gx_lret C dd_We_leastWeight_164 ?_
              refine ⟨_, rfl, ?_, ⟨(gm_un (by decide)).trans k31, ⟨La, (ro_at_keep ka (gm_un (by decide)) (gm_un (by decide)))⟩, ⟨Lb, (ro_at_keep kb (gm_un (by decide)) (gm_un (by decide)))⟩, f1, gm_us⟩, fun k hk => (gm_un (by omega)).trans (ko k hk)⟩
              unfold we_an
              rw [hxo, hyo, hst]
              show some (Value.long _) = some (Value.long (am_e (ba_le (fun q => we_V La.reverse Lb.reverse (am_ar a) s.1 s.2 ((La.length * 9 + Lb.length) * 16 + q)) (am_en a) (am_n a))))
              rw [← hVV]
              rw [lc_ge] at h153
              rw [← fe_e (o := ba_le (fun q => v1 ((La.length * 9 + Lb.length) * 16 + q)) (am_en a) (am_n a)) hlt]
              rw [if_neg (Int64.not_lt.mpr h153)]
            · refine gx_lload C 0 dd_We_leastWeight_156 (kk := ?_)
              refine gx_goto C 164 dd_We_leastWeight_158 (kk := ?_)
              refine gx_lret C dd_We_leastWeight_164 ?_
              refine ⟨_, rfl, ?_, ⟨(gm_un (by decide)).trans k31, ⟨La, (ro_at_keep ka (gm_un (by decide)) (gm_un (by decide)))⟩, ⟨Lb, (ro_at_keep kb (gm_un (by decide)) (gm_un (by decide)))⟩, f1, gm_us⟩, fun k hk => (gm_un (by omega)).trans (ko k hk)⟩
              unfold we_an
              rw [hxo, hyo, hst]
              show some (Value.long _) = some (Value.long (am_e (ba_le (fun q => we_V La.reverse Lb.reverse (am_ar a) s.1 s.2 ((La.length * 9 + Lb.length) * 16 + q)) (am_en a) (am_n a))))
              rw [← hVV]
              rw [lc_ge] at h153
              rw [← fe_e (o := ba_le (fun q => v1 ((La.length * 9 + Lb.length) * 16 + q)) (am_en a) (am_n a)) hlt]
              rw [if_pos (Int64.not_le.mp h153)]
          | succ m ih =>
            intro i v1 f1 hm hI hf1 hB1
            have inner : ∀ m j v1 f1, j + m = Lb.length + 1 → we_I La.reverse Lb.reverse (am_ar a) (we_v0 s.1 s.2) (i * 9 + j) v1 → we_in f1 v1 → sp_b (1000000001 + (i * 9 + j) * 1088000001088) v1 → gx_G K D 6 0 0 75 [(5, .int (nI j)), (4, .int (nI i)), (0, .ref (ad 31)), (1, .ref (ad (2 + 4 * ia))), (2, .int x), (3, .int y)] [] (gx_w ad (gm_h dA ad mm (va_up r2 36 (.inl (dA 1, 1296, .inr (.inl f1)))))) (gx_Z K D dA 0 0 (fun v w => ∃ r2, w = gx_w ad (gm_h dA ad mm r2) ∧ v = some (.long (am_e (we_an a x y))) ∧ we_ok dA ad r2 ∧ ∀ k, k < 31 ∨ 36 < k → r2 k = r k)) := by
              intro m
              induction m with
              | zero =>
                intro j v1 f1 hj hI hf1 hB1
                refine gx_iload C 0 dd_We_leastWeight_75 (kk := ?_)
                refine gx_aload_n C 2 dd_We_leastWeight_77 (kk := ?_)
                refine gx_get C fd_We_18 (gm_r ((gm_un (by decide)).trans k31)) dd_We_leastWeight_78 (kk := ?_)
                refine gx_get C fd_We_49 (gm_r ((gm_un (by decide)).trans kb.1)) dd_We_leastWeight_81 (kk := ?_)
                refine gx_icmp_gt C 117 dd_We_leastWeight_84 (fun h84 => ?_) (fun h84 => absurd ((nI_ltI (by omega) (by omega)).mpr (show Lb.length < j by omega)) h84)
                refine gx_iinc C 1 (nI (i + 1)) _ dd_We_leastWeight_117 (nI_1 i) (kk := ?_)
                refine gx_goto C 60 dd_We_leastWeight_120 (kk := ?_)
                refine gx_loc [0, 2, 3, 4, 5] ?_
                exact ih (i + 1) v1 f1 (by omega) (we_row (by rw [List.length_reverse]; exact kb.2.2.1) (by rw [List.length_reverse, show i * 9 + Lb.length + 1 = i * 9 + j by omega]; exact hI)) hf1 (sp_b_mono hB1 (by omega))
              | succ m ihI =>
                intro j v1 f1 hj hI hf1 hB1
                refine gx_iload C 0 dd_We_leastWeight_75 (kk := ?_)
                refine gx_aload_n C 2 dd_We_leastWeight_77 (kk := ?_)
                refine gx_get C fd_We_18 (gm_r ((gm_un (by decide)).trans k31)) dd_We_leastWeight_78 (kk := ?_)
                refine gx_get C fd_We_49 (gm_r ((gm_un (by decide)).trans kb.1)) dd_We_leastWeight_81 (kk := ?_)
                refine gx_icmp_gt C 117 dd_We_leastWeight_84 (fun h84 => absurd h84 (by rw [nI_ltI (by omega) (by omega)]; omega)) (fun h84 => ?_)
                refine gx_aload_n C 3 dd_We_leastWeight_87 (kk := ?_)
                refine gx_aload_n C 2 dd_We_leastWeight_88 (kk := ?_)
                refine gx_get C fd_We_21 (gm_r ((gm_un (by decide)).trans k31)) dd_We_leastWeight_89 (kk := ?_)
                refine gx_iload C 1 dd_We_leastWeight_92 (kk := ?_)
                refine gx_iload C 0 dd_We_leastWeight_94 (kk := ?_)
                refine gx_callS C (ct_We_baseOf (gx_l K) D dA _ i j) me_We_baseOf ml_We_52 ms_We_baseOf dd_We_leastWeight_96 (kk := fun v w hq => ?_)
                obtain ⟨rfl, rfl⟩ := hq
                refine gx_callV C (ct_Ma_spread (gx_l K) D dA ad mm (va_up r2 36 (.inl (dA 1, 1296, .inr (.inl f1)))) (q := 36) (n0 := 1296) (base := (i * 9 + j) * 16) (B := 1000000001 + (i * 9 + j) * 1088000001088) (wt := 1000000001) (v0 := we_get v1 ((i * 9 + j) * 16)) hia hMa hn16 hba.2.1 hba.2.2.1 hnd (by decide) (by decide) (by decide) (by omega) gm_us (fun t ht => by unfold we_get; rw [if_pos ht]; exact hf1 _ (by omega)) (we_get_b hB1) (by omega)) me_Ma_spread ml_We_56 mn_Ma_spread _ (gx_w_at (by omega) (gm_at (j := 0) hia (by decide))) rfl dd_We_leastWeight_99 (kk := fun v w hq => ?_)
                obtain ⟨rfl, f2, u2, rfl, hf2, ho2, hfix, hub⟩ := hq
                rw [gm_uu]
                have hf3 : we_in f2 (we_put v1 ((i * 9 + j) * 16) u2) := by
                  intro t ht
                  by_cases h1 : (i * 9 + j) * 16 ≤ t ∧ t < (i * 9 + j) * 16 + 16
                  · obtain ⟨q, rfl⟩ : ∃ q, t = (i * 9 + j) * 16 + q := ⟨t - (i * 9 + j) * 16, by omega⟩
                    rw [we_put_in (by omega)]
                    exact hf2 q (by omega)
                  · rw [we_put_out (by omega), ho2 t (by omega)]
                    exact hf1 t ht
                have hstep := we_step (u2 := u2) (by rw [List.length_reverse]; exact ka.2.2.1) (by rw [List.length_reverse]; exact kb.2.2.1) (by rw [List.length_reverse]; omega) (by rw [List.length_reverse]; omega) (fun x hx => (hba.2.2.1 x hx).1) hI hfix
                refine gx_aload_n C 2 dd_We_leastWeight_102 (kk := ?_)
                refine gx_aload_n C 3 dd_We_leastWeight_103 (kk := ?_)
                refine gx_iload C 1 dd_We_leastWeight_104 (kk := ?_)
                refine gx_iload C 0 dd_We_leastWeight_106 (kk := ?_)
                refine gx_callV C (ct_We_leave (gx_l K) D dA ad mm (va_up r2 36 (.inl (dA 1, 1296, .inr (.inl f2)))) (i := i) (j := j) (Bd := 1000000001 + (i * 9 + j) * 1088000001088 + 1024 * 1000000001) hia hMa hba hnd ((gm_un (by decide)).trans k31) (ro_at_keep ka (gm_un (by decide)) (gm_un (by decide))) (ro_at_keep kb (gm_un (by decide)) (gm_un (by decide))) gm_us hf3 (we_put_b hB1 hub (by omega)) (by omega) (by omega) (by omega)) me_We_leave ml_We_60 mn_We_leave _ (gx_w_at (by decide) (gm_r ((gm_un (by decide)).trans k31))) rfl dd_We_leastWeight_108 (kk := fun v w hq => ?_)
                obtain ⟨rfl, f3, rfl, hf4, hb4⟩ := hq
                rw [gm_uu]
                refine gx_iinc C 0 (nI (j + 1)) _ dd_We_leastWeight_111 (nI_1 j) (kk := ?_)
                refine gx_goto C 75 dd_We_leastWeight_114 (kk := ?_)
                exact ihI (j + 1) _ f3 (by omega) hstep hf4 (sp_b_mono hb4 (by omega))
            refine gx_iload C 0 dd_We_leastWeight_60 (kk := ?_)
            refine gx_aload_n C 1 dd_We_leastWeight_62 (kk := ?_)
            refine gx_get C fd_We_12 (gm_r ((gm_un (by decide)).trans k31)) dd_We_leastWeight_63 (kk := ?_)
            refine gx_get C fd_We_49 (gm_r ((gm_un (by decide)).trans ka.1)) dd_We_leastWeight_66 (kk := ?_)
            refine gx_icmp_gt C 123 dd_We_leastWeight_69 (fun h69 => absurd h69 (by rw [nI_ltI (by omega) (by omega)]; omega)) (fun h69 => ?_)
            refine gx_iconst (v := nI 0) C dd_We_leastWeight_72 (kk := ?_)
            refine gx_istore C _ dd_We_leastWeight_73 (kk := ?_)
            exact inner (Lb.length + 1) 0 v1 f1 (by omega) hI hf1 hB1
        refine gx_aload_n C 1 dd_We_leastWeight_22 (kk := ?_)
        refine gm_get C fd_We_29 hia dd_We_leastWeight_23 (kk := ?_)
        refine gx_topi _ hqa.1 ?_
        refine gx_iconst (v := -1) C dd_We_leastWeight_26 (kk := ?_)
        refine gx_icmp_ne C 34 dd_We_leastWeight_27 (fun h27 => ?_) (fun h27 => absurd h27 (nI_m1 (by omega)))
        refine gx_aload_n C 0 dd_We_leastWeight_34 (kk := ?_)
        refine gx_get C fd_We_21 (gm_r k31) dd_We_leastWeight_35 (kk := ?_)
        refine gx_ldc2 C dd_We_leastWeight_38 kc_We_37 (kk := ?_)
        refine gx_callS C (ct_JA_fill (gx_l K) D dA ad (gm_h dA ad mm r2) 36 1296 f0 1152921504606846976 (by decide) (by decide) (gm_r k36)) me_JA_fill ml_We_39 ms_JA_fill dd_We_leastWeight_41 (kk := fun v w hq => ?_)
        obtain ⟨rfl, rfl⟩ := hq
        rw [gm_upr (by decide)]
        refine gx_aload_n C 0 dd_We_leastWeight_44 (kk := ?_)
        refine gx_get C fd_We_21 (gm_r ((gm_un (by decide)).trans k31)) dd_We_leastWeight_45 (kk := ?_)
        refine gx_aload_n C 1 dd_We_leastWeight_48 (kk := ?_)
        refine gm_get C fd_We_29 hia dd_We_leastWeight_49 (kk := ?_)
        refine gx_topi _ hqa.1 ?_
        refine gx_aload_n C 1 dd_We_leastWeight_52 (kk := ?_)
        refine gm_get C fd_We_45 hia dd_We_leastWeight_53 (kk := ?_)
        refine gx_topl _ hqa.2 ?_
        refine gz_lastore C gm_us dd_We_leastWeight_56 (by omega) (kk := fun r3 hr3 => ?_)
        rw [gm_uu] at hr3
        subst hr3
        refine gx_iconst (v := nI 0) C dd_We_leastWeight_57 (kk := ?_)
        refine gx_istore C _ dd_We_leastWeight_58 (kk := ?_)
        refine loop (La.length + 1) 0 (we_v0 s.1 s.2) _ (by omega) (we_I0 _ _ _ _) ?_ ?_
        · intro t ht
          unfold we_v0
          by_cases h1 : t = s.1
          · rw [if_pos h1, h1, pk_uLs]
            rfl
          · rw [if_neg h1, pk_uLn h1, if_pos ht]
            rfl
        · intro t z hz
          unfold we_v0 at hz
          split at hz
          · cases hz; omega
          · cases hz
