theorem co_dc {l : List (Nat × Nat)} {j S : Nat} {x : Nat × Nat} (h : l[j]? = some x) (hj : j < S) : (l.take S).drop j = x :: (l.take S).drop (j + 1) := by
  obtain ⟨hl, he⟩ := List.getElem?_eq_some_iff.mp h
  have h1 : j < (l.take S).length := by simp; omega
  rw [List.drop_eq_getElem_cons h1]
  congr 1
  rw [List.getElem_take, he]
theorem co_dn {l : List (Nat × Nat)} {S : Nat} : (l.take S).drop S = [] := List.drop_eq_nil_of_le (by simp; omega)
theorem co_run_c {s : Nat} {x : co_I} {t : List co_I} {c : co_S} : co_run s (x :: t) c = match co_br s c x with
    | none => none
    | some c2 => co_run s t c2 := rfl
set_option maxRecDepth 100000 in
set_option maxHeartbeats 4000000 in
theorem ct_Co_bringSecond (l : Launch) (D : va_G) (dA : Nat → ClassId) (ad : Nat → Nat) (mm : Nat → gm_V) (r : Nat → va_E) {ia ib im : Nat} {tri : Nat → Int32} {st : Option (Nat × Nat)} {en : Nat → Option Nat} {c : co_S} (him : im < 5) (h22 : r 22 = .inr (2, [.ref (ad (2 + 4 * ia)), .ref (ad (2 + 4 * ib)), .ref (ad (2 + 4 * im)), .ref (ad 23)])) (h23 : r 23 = .inl (dA 0, 16, .inl tri)) (hI : co_iv (mm im) tri st en c) {b : am_T} (hib : ib < 5) (hnb : ib ≠ im) (hMb : gm_is (mm ib) b) (hbb : am_b 1000000001 b) (hsb : am_so (am_ar b)) {s p q : Nat} (hs : s < 16) (hp : p < 16) (hq : q < 16) : gx_Ct l D dA yy_Co_bringSecond cc_Co_bringSecond 8 (some .boolean) 3 0 0 [.ref (ad 22), .int (nI s), .int (nI p), .int (nI q)] (gx_w ad (gm_h dA ad mm r)) (fun v w => ∃ M tri2, w = (gx_w ad (gm_h dA ad (va_up mm im M) (va_up r 23 (.inl (dA 0, 16, .inl tri2))))) ∧ co_bq v M tri2 st en (co_run s (co_second (am_ar b) p q) c)) := by
  refine gx_of (by decide) (Nat.le_of_ble_eq_true rfl) (fun K C _ _ => ?_)
  obtain ⟨R, hR⟩ : ∃ R, R = co_run s (co_second (am_ar b) p q) c := ⟨_, rfl⟩
  rw [← hR]
  have hl64 := hbb.2.1
  have hSl := am_pl_le (q * 1024 + (8 * (0 + 1) + 0) * 16 + 0) (am_ar b)
  have loop : ∀ m j c M tri, j + m = am_pl (q * 1024 + (8 * (0 + 1) + 0) * 16 + 0) (am_ar b) → co_iv M tri st en c → co_run s ((((am_ar b).take (am_pl (q * 1024 + (8 * (0 + 1) + 0) * 16 + 0) (am_ar b))).drop j).map (co_s1 p)) c = R → gx_G K D 8 0 0 34 [(5, .int (nI j)), (4, .int (nI (am_pl (q * 1024 + (8 * (0 + 1) + 0) * 16 + 0) (am_ar b)))), (0, .ref (ad 22)), (1, .int (nI s)), (2, .int (nI p)), (3, .int (nI q))] [] (gx_w ad (gm_h dA ad (va_up mm im M) (va_up r 23 (.inl (dA 0, 16, .inl tri))))) (gx_Z K D dA 0 0 (fun v w => ∃ M tri2, w = (gx_w ad (gm_h dA ad (va_up mm im M) (va_up r 23 (.inl (dA 0, 16, .inl tri2))))) ∧ co_bq v M tri2 st en R)) := by
    obtain ⟨S, hS⟩ : ∃ S, S = am_pl (q * 1024 + (8 * (0 + 1) + 0) * 16 + 0) (am_ar b) := ⟨_, rfl⟩
    rw [← hS] at hSl ⊢
    intro m
    induction m with
    | zero =>
      intro j c M tri hj hI hR
      refine gx_iload C 0 dd_Co_bringSecond_34 (kk := ?_)
      refine gx_iload C 1 dd_Co_bringSecond_36 (kk := ?_)
      refine gx_icmp_ge C 102 dd_Co_bringSecond_38 (fun h38 => ?_) (fun h38 => absurd (nI_le (a := S) (b := j) (by omega) (by omega)) h38)
      refine gx_iconst (v := nI 1) C dd_Co_bringSecond_102 (kk := ?_)
      refine gx_zret C dd_Co_bringSecond_103 (by first | rfl | exact fb_nar) ?_
      rw [show j = S by omega, co_dn] at hR
      exact ⟨M, tri, rfl, by rw [← hR]; exact ⟨rfl, hI⟩⟩
    | succ m ih =>
      intro j c M tri hj hI hR
      obtain ⟨y, hy⟩ : ∃ x, (am_ar b)[j]? = some x := ⟨_, List.getElem?_eq_getElem (by omega)⟩
      obtain ⟨hy1, hy2⟩ := hMb.2.2.2.2 _ _ hy
      obtain ⟨hyb, hyw⟩ := hbb.2.2.1 y (List.mem_of_getElem? hy)
      refine gx_iload C 0 dd_Co_bringSecond_34 (kk := ?_)
      refine gx_iload C 1 dd_Co_bringSecond_36 (kk := ?_)
      refine gx_icmp_ge C 102 dd_Co_bringSecond_38 (fun h38 => absurd h38 (nI_ge (by omega) (by omega))) (fun h38 => ?_)
      refine gx_aload_n C 2 dd_Co_bringSecond_41 (kk := ?_)
      refine gx_get C fd_Co_19 (gm_r ((gm_un (by decide)).trans h22)) dd_Co_bringSecond_42 (kk := ?_)
      refine gm_get C fd_Co_82 (by assumption) dd_Co_bringSecond_45 (kk := ?_)
      refine gx_iload C 0 dd_Co_bringSecond_48 (kk := ?_)
      refine gm_ln_k C hib dd_Co_bringSecond_50 (by omega) (kk := ?_)
      refine gx_topi (nI y.1) (by rw [gm_un hnb]; exact hy1) ?_
      refine gx_istore C _ dd_Co_bringSecond_51 (kk := ?_)
      refine gx_iconst (v := nI 0) C dd_Co_bringSecond_53 (kk := ?_)
      refine gx_iload C 0 dd_Co_bringSecond_54 (kk := ?_)
      refine gx_callS C (ct_WM_outOf (gx_l K) D dA _ y.1 (by omega)) me_WM_outOf ml_Co_85 ms_WM_outOf dd_Co_bringSecond_56 (kk := fun v w hq => ?_)
      obtain ⟨rfl, rfl⟩ := hq
      refine gx_callS C (ct_WM_labelPair (gx_l K) D dA _ (0) (y.1 / 16 % 8)) me_WM_labelPair ml_Co_88 ms_WM_labelPair dd_Co_bringSecond_59 (kk := fun v w hq => ?_)
      obtain ⟨rfl, rfl⟩ := hq
      refine gx_istore C _ dd_Co_bringSecond_62 (kk := ?_)
      refine gx_aload_n C 4 dd_Co_bringSecond_64 (kk := ?_)
      refine gx_iload_n C 5 dd_Co_bringSecond_65 (kk := ?_)
      refine gx_iload_n C 6 dd_Co_bringSecond_66 (kk := ?_)
      refine gx_iload C 1 dd_Co_bringSecond_67 (kk := ?_)
      refine gx_callS C (ct_WM_toOf (gx_l K) D dA _ y.1 (by omega)) me_WM_toOf ml_Co_92 ms_WM_toOf dd_Co_bringSecond_69 (kk := fun v w hq => ?_)
      obtain ⟨rfl, rfl⟩ := hq
      refine gx_iconst (v := nI 2) C dd_Co_bringSecond_72 (kk := ?_)
      refine gx_callS C (ct_Co_tripleOf (gx_l K) D dA _ (p) (y.1 % 16) 2 (by omega) (by omega) (by omega)) me_Co_tripleOf ml_Co_35 ms_Co_tripleOf dd_Co_bringSecond_73 (kk := fun v w hq => ?_)
      obtain ⟨rfl, rfl⟩ := hq
      refine gx_iload C 0 dd_Co_bringSecond_76 (kk := ?_)
      refine gx_aload_n C 4 dd_Co_bringSecond_78 (kk := ?_)
      refine gx_get C fd_Co_19 (gm_r ((gm_un (by decide)).trans h22)) dd_Co_bringSecond_79 (kk := ?_)
      refine gm_get C fd_Co_98 (by assumption) dd_Co_bringSecond_82 (kk := ?_)
      refine gx_iload C 2 dd_Co_bringSecond_85 (kk := ?_)
      refine gm_ln_g C hib dd_Co_bringSecond_87 (by omega) (kk := ?_)
      refine gx_topl (lN y.2) (by rw [gm_un hnb]; exact hy2) ?_
      refine gx_callV C (ct_Co_bring (gx_l K) D dA ad (va_up mm im M) (va_up r 23 (.inl (dA 0, 16, .inl tri))) (s := s) (x := co_s1 p y) him ((gm_un (by decide)).trans h22) gm_us (by rw [gm_us]; exact hI) hs (by show 8 * 0 + y.1 / 16 % 8 < 64; omega) (by show y.2 < 4000000000; omega) ⟨hp, by show y.1 % 16 < 16; omega, by show 2 < 3; decide⟩) me_Co_bring ml_Co_102 mn_Co_bring _ (gx_w_at (by decide) (gm_r ((gm_un (by decide)).trans h22))) rfl dd_Co_bringSecond_88 (kk := fun v w hq => ?_)
      obtain ⟨M2, tri2, rfl, hq⟩ := hq
      rw [gm_uu, gm_uu]
      rcases hbr : co_br s c (co_s1 p y) with _ | c2
      · rw [hbr] at hq
        have hq : v = some (.int (nI 0)) := hq
        subst hq
        refine gx_if_ne C 96 dd_Co_bringSecond_91 (fun h91 => absurd rfl h91) (fun h91 => ?_)
        refine gx_iconst (v := nI 0) C dd_Co_bringSecond_94 (kk := ?_)
        refine gx_zret C dd_Co_bringSecond_95 (by first | rfl | exact fb_nar) ?_
        rw [co_dc hy (by omega), List.map_cons, co_run_c, hbr] at hR
        exact ⟨M2, tri2, rfl, by rw [← hR]; rfl⟩
      · rw [hbr] at hq
        obtain ⟨hv, hI2⟩ := hq
        subst hv
        refine gx_if_ne C 96 dd_Co_bringSecond_91 (fun h91 => ?_) (fun h91 => absurd h91 (by decide))
        refine gx_iinc C 2 (nI (j + 1)) _ dd_Co_bringSecond_96 (nI_1 j) (kk := ?_)
        refine gx_goto C 34 dd_Co_bringSecond_99 (kk := ?_)
        refine gx_loc [0, 3, 4, 5, 6, 7] ?_
        rw [co_dc hy (by omega), List.map_cons, co_run_c, hbr] at hR
        exact ih (j + 1) c2 M2 tri2 (by omega) hI2 hR
  refine gx_aload_n C 0 dd_Co_bringSecond_0 (kk := ?_)
  refine gx_get C fd_Co_19 (gm_r h22) dd_Co_bringSecond_1 (kk := ?_)
  refine gx_iload_n C 3 dd_Co_bringSecond_4 (kk := ?_)
  refine gx_iconst (v := nI 1) C dd_Co_bringSecond_5 (kk := ?_)
  refine gx_iconst (v := nI 0) C dd_Co_bringSecond_6 (kk := ?_)
  refine gx_callS C (ct_WM_labelPair (gx_l K) D dA _ (1) (0)) me_WM_labelPair ml_Co_88 ms_WM_labelPair dd_Co_bringSecond_7 (kk := fun v w hq => ?_)
  obtain ⟨rfl, rfl⟩ := hq
  refine gx_iconst (v := nI 0) C dd_Co_bringSecond_10 (kk := ?_)
  refine gx_callS C (ct_WM_keyOf (gx_l K) D dA _ (q) (8 * 1 + 0) (0) (by omega) (by omega) (by omega)) me_WM_keyOf ml_Co_76 ms_WM_keyOf dd_Co_bringSecond_11 (kk := fun v w hq => ?_)
  obtain ⟨rfl, rfl⟩ := hq
  refine gx_callV C (ct_Ma_placeOf (gx_l K) D dA ad mm r (key := q * 1024 + (8 * 1 + 0) * 16 + 0) hib hMb (by omega) hbb.2.1 (fun x hx => (hbb.2.2.1 x hx).1) hsb) me_Ma_placeOf ml_Co_79 mn_Ma_placeOf _ (gx_w_at (by omega) (gm_at (j := 0) hib (by decide))) rfl dd_Co_bringSecond_14 (kk := fun v w hq => ?_)
  obtain ⟨rfl, rfl⟩ := hq
  refine gx_istore C _ dd_Co_bringSecond_17 (kk := ?_)
  refine gx_aload_n C 1 dd_Co_bringSecond_19 (kk := ?_)
  refine gx_get C fd_Co_19 (gm_r h22) dd_Co_bringSecond_20 (kk := ?_)
  refine gx_iload_n C 4 dd_Co_bringSecond_23 (kk := ?_)
  refine gx_iconst (v := nI 0) C dd_Co_bringSecond_24 (kk := ?_)
  refine gx_iconst (v := nI 0) C dd_Co_bringSecond_25 (kk := ?_)
  refine gx_callS C (ct_WM_keyOf (gx_l K) D dA _ (q) (0) (0) (by omega) (by omega) (by omega)) me_WM_keyOf ml_Co_76 ms_WM_keyOf dd_Co_bringSecond_26 (kk := fun v w hq => ?_)
  obtain ⟨rfl, rfl⟩ := hq
  refine gx_callV C (ct_Ma_placeOf (gx_l K) D dA ad mm r (key := q * 1024 + 0 * 16 + 0) hib hMb (by omega) hbb.2.1 (fun x hx => (hbb.2.2.1 x hx).1) hsb) me_Ma_placeOf ml_Co_79 mn_Ma_placeOf _ (gx_w_at (by omega) (gm_at (j := 0) hib (by decide))) rfl dd_Co_bringSecond_29 (kk := fun v w hq => ?_)
  obtain ⟨rfl, rfl⟩ := hq
  refine gx_istore C _ dd_Co_bringSecond_32 (kk := ?_)
  refine gx_wld ?_ (loop (am_pl (q * 1024 + (8 * (0 + 1) + 0) * 16 + 0) (am_ar b) - am_pl (q * 1024 + (8 * 0 + 0) * 16 + 0) (am_ar b)) (am_pl (q * 1024 + (8 * 0 + 0) * 16 + 0) (am_ar b)) c (mm im) tri (by have := am_pl_mono (lo := q * 1024 + (8 * 0 + 0) * 16 + 0) (hi := q * 1024 + (8 * (0 + 1) + 0) * 16 + 0) (by omega) (am_ar b); omega) hI (by rw [co_lr hsb q 0]; exact hR.symm))
  rw [gm_ue, ← h23, gm_ue]
