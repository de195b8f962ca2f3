theorem co_dc {l : List (Nat × Nat)} {j S : Nat} {x : Nat × Nat} (h : l[j]? = some x) (hj : j < S) : (l.take S).drop j = x :: (l.take S).drop (j + 1) := by
  obtain ⟨hl, he⟩ := List.getElem?_eq_some_iff.mp h
  have h1 : j < (l.take S).length := by simp; omega
  rw [List.drop_eq_getElem_cons h1]
  congr 1
  rw [List.getElem_take, he]
theorem co_dn {l : List (Nat × Nat)} {S : Nat} : (l.take S).drop S = [] := List.drop_eq_nil_of_le (by simp; omega)
theorem co_run_c {s : Nat} {x : co_I} {t : List co_I} {c : co_S} : co_run s (x :: t) c = match co_br s c x with
    | none => none
    | some c2 => co_run s t c2 := rfl
set_option maxRecDepth 100000 in
set_option maxHeartbeats 4000000 in
theorem ct_Co_bringSecond (l : Launch) (D : va_G) (dA : Nat → ClassId) (ad : Nat → Nat) (mm : Nat → gm_V) (r : Nat → va_E) {ia ib im : Nat} {tri : Nat → Int32} {st : Option (Nat × Nat)} {en : Nat → Option Nat} {c : co_S} (him : im < 5) (h22 : r 22 = .inr (2, [.ref (ad (2 + 4 * ia)), .ref (ad (2 + 4 * ib)), .ref (ad (2 + 4 * im)), .ref (ad 23)])) (h23 : r 23 = .inl (dA 0, 16, .inl tri)) (hI : co_iv (mm im) tri st en c) {b : am_T} (hib : ib < 5) (hnb : ib ≠ im) (hMb : gm_is (mm ib) b) (hbb : am_b 1000000001 b) (hsb : am_so (am_ar b)) {s p q : Nat} (hs : s < 16) (hp : p < 16) (hq : q < 16) : gx_Ct l D dA yy_Co_bringSecond cc_Co_bringSecond 8 (some .boolean) 3 0 0 [.ref (ad 22), .int (nI s), .int (nI p), .int (nI q)] (gx_w ad (gm_h dA ad mm r)) (fun v w => ∃ M tri2, w = (gx_w ad (gm_h dA ad (va_up mm im M) (va_up r 23 (.inl (dA 0, 16, .inl tri2))))) ∧ co_bq v M tri2 st en (co_run s (co_second (am_ar b) p q) c)) := by
  refine gx_of (by decide) (Nat.le_of_ble_eq_true rfl) (fun K C _ _ => ?_)
  obtain ⟨R, hR⟩ : ∃ R, R = co_run s (co_second (am_ar b) p q) c := ⟨_, rfl⟩
  rw [← hR]
  have hl64 := hbb.2.1
  have hSl := am_pl_le (q * 1024 + (8 * (0 + 1) + 0) * 16 + 0) (am_ar b)
  have loop : ∀ m j c M tri, j + m = am_pl (q * 1024 + (8 * (0 + 1) + 0) * 16 + 0) (am_ar b) → co_iv M tri st en c → co_run s ((((am_ar b).take (am_pl (q * 1024 + (8 * (0 + 1) + 0) * 16 + 0) (am_ar b))).drop j).map (co_s1 p)) c = R → gx_G K D 8 0 0 34 [(5, .int (nI j)), (4, .int (nI (am_pl (q * 1024 + (8 * (0 + 1) + 0) * 16 + 0) (am_ar b)))), (0, .ref (ad 22)), (1, .int (nI s)), (2, .int (nI p)), (3, .int (nI q))] [] (gx_w ad (gm_h dA ad (va_up mm im M) (va_up r 23 (.inl (dA 0, 16, .inl tri))))) (gx_Z K D dA 0 0 (fun v w => ∃ M tri2, w = (gx_w ad (gm_h dA ad (va_up mm im M) (va_up r 23 (.inl (dA 0, 16, .inl tri2))))) ∧ co_bq v M tri2 st en R)) := by
    obtain ⟨S, hS⟩ : ∃ S, S = am_pl (q * 1024 + (8 * (0 + 1) + 0) * 16 + 0) (am_ar b) := ⟨_, rfl⟩
    rw [← hS] at hSl ⊢
    intro m
    induction m with
    | zero =>
      intro j c M tri hj hI hR
      refine gx_iload C 0 dd_Co_bringSecond_34 (kk := ?_)
      refine gx_iload C 1 dd_Co_bringSecond_36 (kk := ?_)
      refine gx_icmp_ge C 102 dd_Co_bringSecond_38 (fun h38 => ?_) (fun h38 => absurd (nI_le (a := S) (b := j) (by omega) (by omega)) h38)
      refine gx_iconst (v := nI 1) C dd_Co_bringSecond_102 (kk := ?_)
      refine gx_zret C dd_Co_bringSecond_103 (by first | rfl | exact fb_nar) ?_
      rw [show j = S by omega, co_dn] at hR
      exact ⟨M, tri, rfl, by rw [← hR]; exact ⟨rfl, hI⟩⟩
    | succ m ih =>
      intro j c M tri hj hI hR
      obtain ⟨y, hy⟩ : ∃ x, (am_ar b)[j]? = some x := ⟨_, List.getElem?_eq_getElem (by omega)⟩
      obtain ⟨hy1, hy2⟩ := hMb.2.2.2.2 _ _ hy
      obtain ⟨hyb, hyw⟩ := hbb.2.2.1 y (List.mem_of_getElem? hy)
      refine gx_iload C 0 dd_Co_bringSecond_34 (kk := ?_)
      refine gx_iload C 1 dd_Co_bringSecond_36 (kk := ?_)
      refine gx_icmp_ge C 102 dd_Co_bringSecond_38 (fun h38 => absurd h38 (nI_ge (by omega) (by omega))) (fun h38 => ?_)
      refine gx_aload_n C 2 dd_Co_bringSecond_41 (kk := ?_)
      refine gx_get C fd_Co_19 (gm_r ((gm_un (by decide)).trans h22)) dd_Co_bringSecond_42 (kk := ?_)
      refine gm_get C fd_Co_82 (by assumption) dd_Co_bringSecond_45 (kk := ?_)
      refine gx_iload C 0 dd_Co_bringSecond_48 (kk := ?_)
      refine gm_ln_k C hib dd_Co_bringSecond_50 (by omega) (kk := ?_)
      refine gx_topi (nI y.1) (by rw [gm_un hnb]; exact hy1) ?_
      refine gx_istore C _ dd_Co_bringSecond_51 (kk := ?_)
      refine gx_iconst (v := nI 0) C dd_Co_bringSecond_53 (kk := ?_)
      refine gx_iload C 0 dd_Co_bringSecond_54 (kk := ?_)
      refine gx_callS C (ct_WM_outOf (gx_l K) D dA _ y.1 (by omega)) me_WM_outOf ml_Co_85 ms_WM_outOf dd_Co_bringSecond_56 (kk := fun v w hq => ?_)
      obtain ⟨rfl, rfl⟩ := hq
      refine gx_callS C (ct_WM_labelPair (gx_l K) D dA _ (0) (y.1 / 16 % 8)) me_WM_labelPair ml_Co_88 ms_WM_labelPair dd_Co_bringSecond_59 (kk := fun v w hq => ?_)
      obtain ⟨rfl, rfl⟩ := hq
      refine gx_istore C _ dd_Co_bringSecond_62 (kk := ?_)
      refine gx_aload_n C 4 dd_Co_bringSecond_64 (kk := ?_)
      refine gx_iload_n C 5 dd_Co_bringSecond_65 (kk := ?_)
      refine gx_iload_n C 6 dd_Co_bringSecond_66 (kk := ?_)
      refine gx_iload C 1 dd_Co_bringSecond_67 (kk := ?_)
      refine gx_callS C (ct_WM_toOf (gx_l K) D dA _ y.1 (by omega)) me_WM_toOf ml_Co_92 ms_WM_toOf dd_Co_bringSecond_69 (kk := fun v w hq => ?_)
      obtain ⟨rfl, rfl⟩ := hq
      refine gx_iconst (v := nI 2) C dd_Co_bringSecond_72 (kk := ?_)
      refine gx_callS C (ct_Co_tripleOf (gx_l K) D dA _ (p) (y.1 % 16) 2 (by omega) (by omega) (by omega)) me_Co_tripleOf ml_Co_35 ms_Co_tripleOf dd_Co_bringSecond_73 (kk := fun v w hq => ?_)
      obtain ⟨rfl, rfl⟩ := hq
      refine gx_iload C 0 dd_Co_bringSecond_76 (kk := ?_)
      refine gx_aload_n C 4 dd_Co_bringSecond_78 (kk := ?_)
      refine gx_get C fd_Co_19 (gm_r ((gm_un (by decide)).trans h22)) dd_Co_bringSecond_79 (kk := ?_)
      refine gm_get C fd_Co_98 (by assumption) dd_Co_bringSecond_82 (kk := ?_)
      refine gx_iload C 2 dd_Co_bringSecond_85 (kk := ?_)
      refine gm_ln_g C hib dd_Co_bringSecond_87 (by omega) (kk := ?_)
      refine gx_topl (lN y.2) (by rw [gm_un hnb]; exact hy2) ?_
      refine gx_callV C (ct_Co_bring (gx_l K) D dA ad (va_up mm im M) (va_up r 23 (.inl (dA 0, 16, .inl tri))) (s := s) (x := co_s1 p y) him ((gm_un (by decide)).trans h22) gm_us (by rw [gm_us]; exact hI) hs (by show 8 * 0 + y.1 / 16 % 8 < 64; omega) (by show y.2 < 4000000000; omega) ⟨hp, by show y.1 % 16 < 16; omega, by show 2 < 3; decide⟩) me_Co_bring ml_Co_102 mn_Co_bring _ (gx_w_at (by decide) (gm_r ((gm_un (by decide)).trans h22))) rfl dd_Co_bringSecond_88 (kk := fun v w hq => ?_)
      obtain ⟨M2, tri2, rfl, hq⟩ := hq
      rw [gm_uu, gm_uu]
      rcases hbr : co_br s c (co_s1 p y) with _ | c2
      · rw [hbr] at hq
        have hq : v = some (.int (nI 0)) := hq
        subst hq
        refine gx_if_ne C 96 dd_Co_bringSecond_91 (fun h91 => absurd rfl h91) (fun h91 => ?_)
        refine gx_iconst (v := nI 0) C dd_Co_bringSecond_94 (kk := ?_)
        refine gx_zret C dd_Co_bringSecond_95 (by first | rfl | exact fb_nar) ?_
        rw [co_dc hy (by omega), List.map_cons, co_run_c, hbr] at hR
        exact ⟨M2, tri2, rfl, by rw [← hR]; rfl⟩
      · rw [hbr] at hq
        obtain ⟨hv, hI2⟩ := hq
        subst hv
        refine gx_if_ne C 96 dd_Co_bringSecond_91 (fun h91 => ?_) (fun h91 => absurd h91 (by decide))
        refine gx_iinc C 2 (nI (j + 1)) _ dd_Co_bringSecond_96 (nI_1 j) (kk := ?_)
        refine gx_goto C 34 dd_Co_bringSecond_99 (kk := ?_)
        refine gx_loc [0, 3, 4, 5, 6, 7] ?_
        rw [co_dc hy (by omega), List.map_cons, co_run_c, hbr] at hR
        exact ih (j + 1) c2 M2 tri2 (by omega) hI2 hR
  refine gx_aload_n C 0 dd_Co_bringSecond_0 (kk := ?_)
  refine gx_get C fd_Co_19 (gm_r h22) dd_Co_bringSecond_1 (kk := ?_)
  refine gx_iload_n C 3 dd_Co_bringSecond_4 (kk := ?_)
  refine gx_iconst (v := nI 1) C dd_Co_bringSecond_5 (kk := ?_)
  refine gx_iconst (v := nI 0) C dd_Co_bringSecond_6 (kk := ?_)
  refine gx_callS C (ct_WM_labelPair (gx_l K) D dA _ (1) (0)) me_WM_labelPair ml_Co_88 ms_WM_labelPair dd_Co_bringSecond_7 (kk := fun v w hq => ?_)
  obtain ⟨rfl, rfl⟩ := hq
  refine gx_iconst (v := nI 0) C dd_Co_bringSecond_10 (kk := ?_)
  refine gx_callS C (ct_WM_keyOf (gx_l K) D dA _ (q) (8 * 1 + 0) (0) (by omega) (by omega) (by omega)) me_WM_keyOf ml_Co_76 ms_WM_keyOf dd_Co_bringSecond_11 (kk := fun v w hq => ?_)
  obtain ⟨rfl, rfl⟩ := hq
  refine gx_callV C (ct_Ma_placeOf (gx_l K) D dA ad mm r (key := q * 1024 + (8 * 1 + 0) * 16 + 0) hib hMb (by omega) hbb.2.1 (fun x hx => (hbb.2.2.1 x hx).1) hsb) me_Ma_placeOf ml_Co_79 mn_Ma_placeOf _ (gx_w_at (by omega) (gm_at (j := 0) hib (by decide))) rfl dd_Co_bringSecond_14 (kk := fun v w hq => ?_)
  obtain ⟨rfl, rfl⟩ := hq
  refine gx_istore C _ dd_Co_bringSecond_17 (kk := ?_)
  refine gx_aload_n C 1 dd_Co_bringSecond_19 (kk := ?_)
  refine gx_get C fd_Co_19 (gm_r h22) dd_Co_bringSecond_20 (kk := ?_)
  refine gx_iload_n C 4 dd_Co_bringSecond_23 (kk := ?_)
  refine gx_iconst (v := nI 0) C dd_Co_bringSecond_24 (kk := ?_)
  refine gx_iconst (v := nI 0) C dd_Co_bringSecond_25 (kk := ?_)
  refine gx_callS C (ct_WM_keyOf (gx_l K) D dA _ (q) (0) (0) (by omega) (by omega) (by omega)) me_WM_keyOf ml_Co_76 ms_WM_keyOf dd_Co_bringSecond_26 (kk := fun v w hq => ?_)
  obtain ⟨rfl, rfl⟩ := hq
  refine gx_callV C (ct_Ma_placeOf (gx_l K) D dA ad mm r (key := q * 1024 + 0 * 16 + 0) hib hMb (by omega) hbb.2.1 (fun x hx => (hbb.2.2.1 x hx).1) hsb) me_Ma_placeOf ml_Co_79 mn_Ma_placeOf _ (gx_w_at (by omega) (gm_at (j := 0) hib (by decide))) rfl dd_Co_bringSecond_29 (kk := fun v w hq => ?_)
  obtain ⟨rfl, rfl⟩ := hq
  refine gx_istore C _ dd_Co_bringSecond_32 (kk := ?_)
  refine gx_wld ?_ (loop (am_pl (q * 1024 + (8 * (0 + 1) + 0) * 16 + 0) (am_ar b) - am_pl (q * 1024 + (8 * 0 + 0) * 16 + 0) (am_ar b)) (am_pl (q * 1024 + (8 * 0 + 0) * 16 + 0) (am_ar b)) c (mm im) tri (by have := am_pl_mono (lo := q * 1024 + (8 * 0 + 0) * 16 + 0) (hi := q * 1024 + (8 * (0 + 1) + 0) * 16 + 0) (by omega) (am_ar b); omega) hI (by rw [co_lr hsb q 0]; exact hR.symm))
  rw [gm_ue, ← h23, gm_ue]
set_option maxRecDepth 100000 in
set_option maxHeartbeats 4000000 in
theorem ct_Co_bringFirst (l : Launch) (D : va_G) (dA : Nat → ClassId) (ad : Nat → Nat) (mm : Nat → gm_V) (r : Nat → va_E) {ia ib im : Nat} {tri : Nat → Int32} {st : Option (Nat × Nat)} {en : Nat → Option Nat} {c : co_S} (him : im < 5) (h22 : r 22 = .inr (2, [.ref (ad (2 + 4 * ia)), .ref (ad (2 + 4 * ib)), .ref (ad (2 + 4 * im)), .ref (ad 23)])) (h23 : r 23 = .inl (dA 0, 16, .inl tri)) (hI : co_iv (mm im) tri st en c) {a : am_T} (hia : ia < 5) (hna : ia ≠ im) (hMa : gm_is (mm ia) a) (hba : am_b 1000000001 a) (hsa : am_so (am_ar a)) {s p q : Nat} (hs : s < 16) (hp : p < 16) (hq : q < 16) : gx_Ct l D dA yy_Co_bringFirst cc_Co_bringFirst 9 (some .boolean) 3 0 0 [.ref (ad 22), .int (nI s), .int (nI p), .int (nI q)] (gx_w ad (gm_h dA ad mm r)) (fun v w => ∃ M tri2, w = (gx_w ad (gm_h dA ad (va_up mm im M) (va_up r 23 (.inl (dA 0, 16, .inl tri2))))) ∧ co_bq v M tri2 st en (co_run s (co_first (am_ar a) p q) c)) := by
  refine gx_of (by decide) (Nat.le_of_ble_eq_true rfl) (fun K C _ _ => ?_)
  obtain ⟨R, hR⟩ : ∃ R, R = co_run s (co_first (am_ar a) p q) c := ⟨_, rfl⟩
  rw [← hR]
  have hl64 := hba.2.1
  have hSl := am_pl_le ((p + 1) * 1024 + 0 * 16 + 0) (am_ar a)
  have loop : ∀ m j c M tri, j + m = (am_pl ((p + 1) * 1024 + 0 * 16 + 0) (am_ar a)) → co_iv M tri st en c → co_run s ((((am_ar a).take (am_pl ((p + 1) * 1024 + 0 * 16 + 0) (am_ar a))).drop j).flatMap (co_f1 q)) c = R → gx_G K D 9 0 0 32 [(5, .int (nI j)), (4, .int (nI (am_pl ((p + 1) * 1024 + 0 * 16 + 0) (am_ar a)))), (0, .ref (ad 22)), (1, .int (nI s)), (2, .int (nI p)), (3, .int (nI q))] [] (gx_w ad (gm_h dA ad (va_up mm im M) (va_up r 23 (.inl (dA 0, 16, .inl tri))))) (gx_Z K D dA 0 0 (fun v w => ∃ M tri2, w = (gx_w ad (gm_h dA ad (va_up mm im M) (va_up r 23 (.inl (dA 0, 16, .inl tri2))))) ∧ co_bq v M tri2 st en R)) := by
    obtain ⟨S, hS⟩ : ∃ S, S = am_pl ((p + 1) * 1024 + 0 * 16 + 0) (am_ar a) := ⟨_, rfl⟩
    rw [← hS] at hSl ⊢
    intro m
    induction m with
    | zero =>
      intro j c M tri hj hI hR
      refine gx_iload C 0 dd_Co_bringFirst_32 (kk := ?_)
      refine gx_iload C 1 dd_Co_bringFirst_34 (kk := ?_)
      refine gx_icmp_ge C 112 dd_Co_bringFirst_36 (fun h36 => ?_) (fun h36 => absurd (nI_le (a := S) (b := j) (by omega) (by omega)) h36)
      refine gx_iconst (v := nI 1) C dd_Co_bringFirst_112 (kk := ?_)
      refine gx_zret C dd_Co_bringFirst_113 (by first | rfl | exact fb_nar) ?_
      rw [show j = S by omega, co_dn] at hR
      exact ⟨M, tri, rfl, by rw [← hR]; exact ⟨rfl, hI⟩⟩
    | succ m ih =>
      intro j c M tri hj hI hR
      obtain ⟨x, hx⟩ : ∃ x, (am_ar a)[j]? = some x := ⟨_, List.getElem?_eq_getElem (by omega)⟩
      obtain ⟨hx1, hx2⟩ := hMa.2.2.2.2 _ _ hx
      obtain ⟨hxb, hxw⟩ := hba.2.2.1 x (List.mem_of_getElem? hx)
      refine gx_iload C 0 dd_Co_bringFirst_32 (kk := ?_)
      refine gx_iload C 1 dd_Co_bringFirst_34 (kk := ?_)
      refine gx_icmp_ge C 112 dd_Co_bringFirst_36 (fun h36 => absurd h36 (nI_ge (by omega) (by omega))) (fun h36 => ?_)
      refine gx_aload_n C 2 dd_Co_bringFirst_39 (kk := ?_)
      refine gx_get C fd_Co_15 (gm_r ((gm_un (by decide)).trans h22)) dd_Co_bringFirst_40 (kk := ?_)
      refine gm_get C fd_Co_82 (by assumption) dd_Co_bringFirst_43 (kk := ?_)
      refine gx_iload C 0 dd_Co_bringFirst_46 (kk := ?_)
      refine gm_ln_k C hia dd_Co_bringFirst_48 (by omega) (kk := ?_)
      refine gx_topi (nI x.1) (by rw [gm_un hna]; exact hx1) ?_
      refine gx_istore C _ dd_Co_bringFirst_49 (kk := ?_)
      refine gx_iload C 0 dd_Co_bringFirst_51 (kk := ?_)
      refine gx_callS C (ct_WM_toOf (gx_l K) D dA _ x.1 (by omega)) me_WM_toOf ml_Co_92 ms_WM_toOf dd_Co_bringFirst_53 (kk := fun v w hq => ?_)
      obtain ⟨rfl, rfl⟩ := hq
      refine gx_iload_n C 6 dd_Co_bringFirst_56 (kk := ?_)
      refine gx_iconst (v := nI 1) C dd_Co_bringFirst_57 (kk := ?_)
      refine gx_callS C (ct_Co_tripleOf (gx_l K) D dA _ (x.1 % 16) (q) 1 (by omega) (by omega) (by omega)) me_Co_tripleOf ml_Co_35 ms_Co_tripleOf dd_Co_bringFirst_58 (kk := fun v w hq => ?_)
      obtain ⟨rfl, rfl⟩ := hq
      refine gx_istore C _ dd_Co_bringFirst_61 (kk := ?_)
      refine gx_iload C 1 dd_Co_bringFirst_63 (kk := ?_)
      refine gx_callS C (ct_WM_inOf (gx_l K) D dA _ x.1 (by omega)) me_WM_inOf ml_Co_95 ms_WM_inOf dd_Co_bringFirst_65 (kk := fun v w hq => ?_)
      obtain ⟨rfl, rfl⟩ := hq
      refine gx_iconst (v := nI 0) C dd_Co_bringFirst_68 (kk := ?_)
      refine gx_callS C (ct_WM_labelPair (gx_l K) D dA _ (x.1 / 128 % 8) (0)) me_WM_labelPair ml_Co_88 ms_WM_labelPair dd_Co_bringFirst_69 (kk := fun v w hq => ?_)
      obtain ⟨rfl, rfl⟩ := hq
      refine gx_istore C _ dd_Co_bringFirst_72 (kk := ?_)
      refine gx_iload C 2 dd_Co_bringFirst_74 (kk := ?_)
      refine gx_callS C (ct_WM_outOf (gx_l K) D dA _ x.1 (by omega)) me_WM_outOf ml_Co_85 ms_WM_outOf dd_Co_bringFirst_76 (kk := fun v w hq => ?_)
      obtain ⟨rfl, rfl⟩ := hq
      refine gx_if_ne C 106 dd_Co_bringFirst_79 (fun h79 => ?_) (fun h79 => ?_)
      · refine gx_iinc C 3 (nI (j + 1)) _ dd_Co_bringFirst_106 (nI_1 j) (kk := ?_)
        refine gx_goto C 32 dd_Co_bringFirst_109 (kk := ?_)
        refine gx_loc [0, 4, 5, 6, 7, 8] ?_
        rw [show (0 : Int32) = nI 0 from rfl, nI_eq (by omega) (by decide)] at h79
        have hf1 : co_f1 q x = [] := if_neg h79
        rw [co_dc hx (by omega), List.flatMap_cons, hf1, List.nil_append] at hR
        exact ih (j + 1) c M tri (by omega) hI hR
      · refine gx_aload_n C 5 dd_Co_bringFirst_82 (kk := ?_)
        refine gx_iload_n C 6 dd_Co_bringFirst_83 (kk := ?_)
        refine gx_iload C 1 dd_Co_bringFirst_84 (kk := ?_)
        refine gx_iload C 0 dd_Co_bringFirst_86 (kk := ?_)
        refine gx_aload_n C 5 dd_Co_bringFirst_88 (kk := ?_)
        refine gx_get C fd_Co_15 (gm_r ((gm_un (by decide)).trans h22)) dd_Co_bringFirst_89 (kk := ?_)
        refine gm_get C fd_Co_98 (by assumption) dd_Co_bringFirst_92 (kk := ?_)
        refine gx_iload C 3 dd_Co_bringFirst_95 (kk := ?_)
        refine gm_ln_g C hia dd_Co_bringFirst_97 (by omega) (kk := ?_)
        refine gx_topl (lN x.2) (by rw [gm_un hna]; exact hx2) ?_
        refine gx_callV C (ct_Co_bring (gx_l K) D dA ad (va_up mm im M) (va_up r 23 (.inl (dA 0, 16, .inl tri))) (s := s) (x := (8 * (x.1 / 128 % 8) + 0, x.2, x.1 % 16, q, 1)) him ((gm_un (by decide)).trans h22) gm_us (by rw [gm_us]; exact hI) hs (by show 8 * (x.1 / 128 % 8) + 0 < 64; omega) (by show x.2 < 4000000000; omega) ⟨by show x.1 % 16 < 16; omega, hq, by show 1 < 3; decide⟩) me_Co_bring ml_Co_102 mn_Co_bring _ (gx_w_at (by decide) (gm_r ((gm_un (by decide)).trans h22))) rfl dd_Co_bringFirst_98 (kk := fun v w hq => ?_)
        obtain ⟨M2, tri2, rfl, hq⟩ := hq
        rw [gm_uu, gm_uu]
        rcases hbr : co_br s c ((8 * (x.1 / 128 % 8) + 0, x.2, x.1 % 16, q, 1)) with _ | c2
        · rw [hbr] at hq
          have hq : v = some (.int (nI 0)) := hq
          subst hq
          refine gx_if_ne C 106 dd_Co_bringFirst_101 (fun h101 => absurd rfl h101) (fun h101 => ?_)
          refine gx_iconst (v := nI 0) C dd_Co_bringFirst_104 (kk := ?_)
          refine gx_zret C dd_Co_bringFirst_105 (by first | rfl | exact fb_nar) ?_
          rw [show (0 : Int32) = nI 0 from rfl, nI_eq (by omega) (by decide)] at h79
          have hf1 : co_f1 q x = [(8 * (x.1 / 128 % 8) + 0, x.2, x.1 % 16, q, 1)] := if_pos h79
          rw [co_dc hx (by omega), List.flatMap_cons, hf1, List.singleton_append, co_run_c, hbr] at hR
          exact ⟨M2, tri2, rfl, by rw [← hR]; rfl⟩
        · rw [hbr] at hq
          obtain ⟨hv, hI2⟩ := hq
          subst hv
          refine gx_if_ne C 106 dd_Co_bringFirst_101 (fun h101 => ?_) (fun h101 => absurd h101 (by decide))
          refine gx_iinc C 3 (nI (j + 1)) _ dd_Co_bringFirst_106 (nI_1 j) (kk := ?_)
          refine gx_goto C 32 dd_Co_bringFirst_109 (kk := ?_)
          refine gx_loc [0, 4, 5, 6, 7, 8] ?_
          rw [show (0 : Int32) = nI 0 from rfl, nI_eq (by omega) (by decide)] at h79
          have hf1 : co_f1 q x = [(8 * (x.1 / 128 % 8) + 0, x.2, x.1 % 16, q, 1)] := if_pos h79
          rw [co_dc hx (by omega), List.flatMap_cons, hf1, List.singleton_append, co_run_c, hbr] at hR
          exact ih (j + 1) c2 M2 tri2 (by omega) hI2 hR
  refine gx_aload_n C 0 dd_Co_bringFirst_0 (kk := ?_)
  refine gx_get C fd_Co_15 (gm_r h22) dd_Co_bringFirst_1 (kk := ?_)
  refine gx_iload_n C 2 dd_Co_bringFirst_4 (kk := ?_)
  refine gx_iconst (v := nI 1) C dd_Co_bringFirst_5 (kk := ?_)
  refine gx_iadd C dd_Co_bringFirst_6 (kk := ?_)
  refine gx_topi _ (nI_add _ _) ?_
  refine gx_iconst (v := nI 0) C dd_Co_bringFirst_7 (kk := ?_)
  refine gx_iconst (v := nI 0) C dd_Co_bringFirst_8 (kk := ?_)
  refine gx_callS C (ct_WM_keyOf (gx_l K) D dA _ (p + 1) (0) (0) (by omega) (by omega) (by omega)) me_WM_keyOf ml_Co_76 ms_WM_keyOf dd_Co_bringFirst_9 (kk := fun v w hq => ?_)
  obtain ⟨rfl, rfl⟩ := hq
  refine gx_callV C (ct_Ma_placeOf (gx_l K) D dA ad mm r (key := (p + 1) * 1024 + 0 * 16 + 0) hia hMa (by omega) hba.2.1 (fun x hx => (hba.2.2.1 x hx).1) hsa) me_Ma_placeOf ml_Co_79 mn_Ma_placeOf _ (gx_w_at (by omega) (gm_at (j := 0) hia (by decide))) rfl dd_Co_bringFirst_12 (kk := fun v w hq => ?_)
  obtain ⟨rfl, rfl⟩ := hq
  refine gx_istore C _ dd_Co_bringFirst_15 (kk := ?_)
  refine gx_aload_n C 1 dd_Co_bringFirst_17 (kk := ?_)
  refine gx_get C fd_Co_15 (gm_r h22) dd_Co_bringFirst_18 (kk := ?_)
  refine gx_iload_n C 3 dd_Co_bringFirst_21 (kk := ?_)
  refine gx_iconst (v := nI 0) C dd_Co_bringFirst_22 (kk := ?_)
  refine gx_iconst (v := nI 0) C dd_Co_bringFirst_23 (kk := ?_)
  refine gx_callS C (ct_WM_keyOf (gx_l K) D dA _ (p) (0) (0) (by omega) (by omega) (by omega)) me_WM_keyOf ml_Co_76 ms_WM_keyOf dd_Co_bringFirst_24 (kk := fun v w hq => ?_)
  obtain ⟨rfl, rfl⟩ := hq
  refine gx_callV C (ct_Ma_placeOf (gx_l K) D dA ad mm r (key := p * 1024 + 0 * 16 + 0) hia hMa (by omega) hba.2.1 (fun x hx => (hba.2.2.1 x hx).1) hsa) me_Ma_placeOf ml_Co_79 mn_Ma_placeOf _ (gx_w_at (by omega) (gm_at (j := 0) hia (by decide))) rfl dd_Co_bringFirst_27 (kk := fun v w hq => ?_)
  obtain ⟨rfl, rfl⟩ := hq
  refine gx_istore C _ dd_Co_bringFirst_30 (kk := ?_)
  refine gx_wld ?_ (loop (am_pl ((p + 1) * 1024 + 0 * 16 + 0) (am_ar a) - am_pl (p * 1024 + 0 * 16 + 0) (am_ar a)) (am_pl (p * 1024 + 0 * 16 + 0) (am_ar a)) c (mm im) tri (by have := am_pl_mono (lo := p * 1024 + 0 * 16 + 0) (hi := (p + 1) * 1024 + 0 * 16 + 0) (by omega) (am_ar a); omega) hI (by rw [co_fr hsa p]; exact hR.symm))
  rw [gm_ue, ← h23, gm_ue]
theorem dd_Co_bringBoth_0 : decode cc_Co_bringBoth 0 = .ok (.aload_n 0, 1) := by decide +kernel
theorem dd_Co_bringBoth_1 : decode cc_Co_bringBoth 1 = .ok (.getfield 15, 3) := by decide +kernel
theorem dd_Co_bringBoth_4 : decode cc_Co_bringBoth 4 = .ok (.iload_n 2, 1) := by decide +kernel
theorem dd_Co_bringBoth_5 : decode cc_Co_bringBoth 5 = .ok (.iconst 1, 1) := by decide +kernel
theorem dd_Co_bringBoth_6 : decode cc_Co_bringBoth 6 = .ok (.iadd, 1) := by decide +kernel
theorem dd_Co_bringBoth_7 : decode cc_Co_bringBoth 7 = .ok (.iconst 0, 1) := by decide +kernel
theorem dd_Co_bringBoth_8 : decode cc_Co_bringBoth 8 = .ok (.iconst 0, 1) := by decide +kernel
theorem dd_Co_bringBoth_9 : decode cc_Co_bringBoth 9 = .ok (.invokestatic 76, 3) := by decide +kernel
theorem dd_Co_bringBoth_12 : decode cc_Co_bringBoth 12 = .ok (.invokevirtual 79, 3) := by decide +kernel
theorem dd_Co_bringBoth_15 : decode cc_Co_bringBoth 15 = .ok (.istore 5, 2) := by decide +kernel
theorem dd_Co_bringBoth_17 : decode cc_Co_bringBoth 17 = .ok (.aload_n 0, 1) := by decide +kernel
theorem dd_Co_bringBoth_18 : decode cc_Co_bringBoth 18 = .ok (.getfield 15, 3) := by decide +kernel
theorem dd_Co_bringBoth_21 : decode cc_Co_bringBoth 21 = .ok (.iload_n 2, 1) := by decide +kernel
theorem dd_Co_bringBoth_22 : decode cc_Co_bringBoth 22 = .ok (.iconst 0, 1) := by decide +kernel
theorem dd_Co_bringBoth_23 : decode cc_Co_bringBoth 23 = .ok (.iconst 0, 1) := by decide +kernel
theorem dd_Co_bringBoth_24 : decode cc_Co_bringBoth 24 = .ok (.invokestatic 76, 3) := by decide +kernel
theorem dd_Co_bringBoth_27 : decode cc_Co_bringBoth 27 = .ok (.invokevirtual 79, 3) := by decide +kernel
theorem dd_Co_bringBoth_30 : decode cc_Co_bringBoth 30 = .ok (.istore 6, 2) := by decide +kernel
theorem dd_Co_bringBoth_32 : decode cc_Co_bringBoth 32 = .ok (.iload 6, 2) := by decide +kernel
theorem dd_Co_bringBoth_34 : decode cc_Co_bringBoth 34 = .ok (.iload 5, 2) := by decide +kernel
theorem dd_Co_bringBoth_36 : decode cc_Co_bringBoth 36 = .ok (.if_icmp .ge 183, 3) := by decide +kernel
theorem dd_Co_bringBoth_39 : decode cc_Co_bringBoth 39 = .ok (.aload_n 0, 1) := by decide +kernel
theorem dd_Co_bringBoth_40 : decode cc_Co_bringBoth 40 = .ok (.getfield 15, 3) := by decide +kernel
theorem dd_Co_bringBoth_43 : decode cc_Co_bringBoth 43 = .ok (.getfield 82, 3) := by decide +kernel
theorem dd_Co_bringBoth_46 : decode cc_Co_bringBoth 46 = .ok (.iload 6, 2) := by decide +kernel
theorem dd_Co_bringBoth_48 : decode cc_Co_bringBoth 48 = .ok (.iaload, 1) := by decide +kernel
theorem dd_Co_bringBoth_49 : decode cc_Co_bringBoth 49 = .ok (.istore 7, 2) := by decide +kernel
theorem dd_Co_bringBoth_51 : decode cc_Co_bringBoth 51 = .ok (.iload 7, 2) := by decide +kernel
theorem dd_Co_bringBoth_53 : decode cc_Co_bringBoth 53 = .ok (.invokestatic 85, 3) := by decide +kernel
theorem dd_Co_bringBoth_56 : decode cc_Co_bringBoth 56 = .ok (.istore 8, 2) := by decide +kernel
theorem dd_Co_bringBoth_58 : decode cc_Co_bringBoth 58 = .ok (.iload 8, 2) := by decide +kernel
theorem dd_Co_bringBoth_60 : decode cc_Co_bringBoth 60 = .ok (.ifCond .ne 7, 3) := by decide +kernel
theorem dd_Co_bringBoth_63 : decode cc_Co_bringBoth 63 = .ok (.iconst 1, 1) := by decide +kernel
theorem dd_Co_bringBoth_64 : decode cc_Co_bringBoth 64 = .ok (.goto 4, 3) := by decide +kernel
theorem dd_Co_bringBoth_67 : decode cc_Co_bringBoth 67 = .ok (.iconst 0, 1) := by decide +kernel
theorem dd_Co_bringBoth_68 : decode cc_Co_bringBoth 68 = .ok (.iload 4, 2) := by decide +kernel
theorem dd_Co_bringBoth_70 : decode cc_Co_bringBoth 70 = .ok (.if_icmp .eq 6, 3) := by decide +kernel
theorem dd_Co_bringBoth_73 : decode cc_Co_bringBoth 73 = .ok (.goto 140, 3) := by decide +kernel
theorem dd_Co_bringBoth_76 : decode cc_Co_bringBoth 76 = .ok (.aload_n 0, 1) := by decide +kernel
theorem dd_Co_bringBoth_77 : decode cc_Co_bringBoth 77 = .ok (.getfield 19, 3) := by decide +kernel
theorem dd_Co_bringBoth_80 : decode cc_Co_bringBoth 80 = .ok (.iload_n 3, 1) := by decide +kernel
theorem dd_Co_bringBoth_81 : decode cc_Co_bringBoth 81 = .ok (.iload 8, 2) := by decide +kernel
theorem dd_Co_bringBoth_83 : decode cc_Co_bringBoth 83 = .ok (.iconst 1, 1) := by decide +kernel
theorem dd_Co_bringBoth_84 : decode cc_Co_bringBoth 84 = .ok (.iadd, 1) := by decide +kernel
theorem dd_Co_bringBoth_85 : decode cc_Co_bringBoth 85 = .ok (.iconst 0, 1) := by decide +kernel
theorem dd_Co_bringBoth_86 : decode cc_Co_bringBoth 86 = .ok (.invokestatic 88, 3) := by decide +kernel
theorem dd_Co_bringBoth_89 : decode cc_Co_bringBoth 89 = .ok (.iconst 0, 1) := by decide +kernel
theorem dd_Co_bringBoth_90 : decode cc_Co_bringBoth 90 = .ok (.invokestatic 76, 3) := by decide +kernel
theorem dd_Co_bringBoth_93 : decode cc_Co_bringBoth 93 = .ok (.invokevirtual 79, 3) := by decide +kernel
theorem dd_Co_bringBoth_96 : decode cc_Co_bringBoth 96 = .ok (.istore 9, 2) := by decide +kernel
theorem dd_Co_bringBoth_98 : decode cc_Co_bringBoth 98 = .ok (.aload_n 0, 1) := by decide +kernel
theorem dd_Co_bringBoth_99 : decode cc_Co_bringBoth 99 = .ok (.getfield 19, 3) := by decide +kernel
theorem dd_Co_bringBoth_102 : decode cc_Co_bringBoth 102 = .ok (.iload_n 3, 1) := by decide +kernel
theorem dd_Co_bringBoth_103 : decode cc_Co_bringBoth 103 = .ok (.iload 8, 2) := by decide +kernel
theorem dd_Co_bringBoth_105 : decode cc_Co_bringBoth 105 = .ok (.iconst 0, 1) := by decide +kernel
theorem dd_Co_bringBoth_106 : decode cc_Co_bringBoth 106 = .ok (.invokestatic 88, 3) := by decide +kernel
theorem dd_Co_bringBoth_109 : decode cc_Co_bringBoth 109 = .ok (.iconst 0, 1) := by decide +kernel
theorem dd_Co_bringBoth_110 : decode cc_Co_bringBoth 110 = .ok (.invokestatic 76, 3) := by decide +kernel
theorem dd_Co_bringBoth_113 : decode cc_Co_bringBoth 113 = .ok (.invokevirtual 79, 3) := by decide +kernel
theorem dd_Co_bringBoth_116 : decode cc_Co_bringBoth 116 = .ok (.istore 10, 2) := by decide +kernel
theorem dd_Co_bringBoth_118 : decode cc_Co_bringBoth 118 = .ok (.iload 10, 2) := by decide +kernel
theorem dd_Co_bringBoth_120 : decode cc_Co_bringBoth 120 = .ok (.iload 9, 2) := by decide +kernel
theorem dd_Co_bringBoth_122 : decode cc_Co_bringBoth 122 = .ok (.if_icmp .ge 91, 3) := by decide +kernel
theorem dd_Co_bringBoth_125 : decode cc_Co_bringBoth 125 = .ok (.iload 7, 2) := by decide +kernel
theorem dd_Co_bringBoth_127 : decode cc_Co_bringBoth 127 = .ok (.invokestatic 92, 3) := by decide +kernel
theorem dd_Co_bringBoth_130 : decode cc_Co_bringBoth 130 = .ok (.aload_n 0, 1) := by decide +kernel
theorem dd_Co_bringBoth_131 : decode cc_Co_bringBoth 131 = .ok (.getfield 19, 3) := by decide +kernel
theorem dd_Co_bringBoth_134 : decode cc_Co_bringBoth 134 = .ok (.getfield 82, 3) := by decide +kernel
theorem dd_Co_bringBoth_137 : decode cc_Co_bringBoth 137 = .ok (.iload 10, 2) := by decide +kernel
theorem dd_Co_bringBoth_139 : decode cc_Co_bringBoth 139 = .ok (.iaload, 1) := by decide +kernel
theorem dd_Co_bringBoth_140 : decode cc_Co_bringBoth 140 = .ok (.invokestatic 92, 3) := by decide +kernel
theorem dd_Co_bringBoth_143 : decode cc_Co_bringBoth 143 = .ok (.iconst 0, 1) := by decide +kernel
theorem dd_Co_bringBoth_144 : decode cc_Co_bringBoth 144 = .ok (.invokestatic 35, 3) := by decide +kernel
theorem dd_Co_bringBoth_147 : decode cc_Co_bringBoth 147 = .ok (.istore 11, 2) := by decide +kernel
theorem dd_Co_bringBoth_149 : decode cc_Co_bringBoth 149 = .ok (.iload 7, 2) := by decide +kernel
theorem dd_Co_bringBoth_151 : decode cc_Co_bringBoth 151 = .ok (.invokestatic 95, 3) := by decide +kernel
theorem dd_Co_bringBoth_154 : decode cc_Co_bringBoth 154 = .ok (.aload_n 0, 1) := by decide +kernel
theorem dd_Co_bringBoth_155 : decode cc_Co_bringBoth 155 = .ok (.getfield 19, 3) := by decide +kernel
theorem dd_Co_bringBoth_158 : decode cc_Co_bringBoth 158 = .ok (.getfield 82, 3) := by decide +kernel
theorem dd_Co_bringBoth_161 : decode cc_Co_bringBoth 161 = .ok (.iload 10, 2) := by decide +kernel
theorem dd_Co_bringBoth_163 : decode cc_Co_bringBoth 163 = .ok (.iaload, 1) := by decide +kernel
theorem dd_Co_bringBoth_164 : decode cc_Co_bringBoth 164 = .ok (.invokestatic 85, 3) := by decide +kernel
theorem dd_Co_bringBoth_167 : decode cc_Co_bringBoth 167 = .ok (.invokestatic 88, 3) := by decide +kernel
theorem dd_Co_bringBoth_170 : decode cc_Co_bringBoth 170 = .ok (.istore 12, 2) := by decide +kernel
theorem dd_Co_bringBoth_172 : decode cc_Co_bringBoth 172 = .ok (.aload_n 0, 1) := by decide +kernel
theorem dd_Co_bringBoth_173 : decode cc_Co_bringBoth 173 = .ok (.iload_n 1, 1) := by decide +kernel
theorem dd_Co_bringBoth_174 : decode cc_Co_bringBoth 174 = .ok (.iload 11, 2) := by decide +kernel
theorem dd_Co_bringBoth_176 : decode cc_Co_bringBoth 176 = .ok (.iload 12, 2) := by decide +kernel
theorem dd_Co_bringBoth_178 : decode cc_Co_bringBoth 178 = .ok (.aload_n 0, 1) := by decide +kernel
theorem dd_Co_bringBoth_179 : decode cc_Co_bringBoth 179 = .ok (.getfield 15, 3) := by decide +kernel
theorem dd_Co_bringBoth_182 : decode cc_Co_bringBoth 182 = .ok (.getfield 98, 3) := by decide +kernel
theorem dd_Co_bringBoth_185 : decode cc_Co_bringBoth 185 = .ok (.iload 6, 2) := by decide +kernel
theorem dd_Co_bringBoth_187 : decode cc_Co_bringBoth 187 = .ok (.laload, 1) := by decide +kernel
theorem dd_Co_bringBoth_188 : decode cc_Co_bringBoth 188 = .ok (.aload_n 0, 1) := by decide +kernel
theorem dd_Co_bringBoth_189 : decode cc_Co_bringBoth 189 = .ok (.getfield 19, 3) := by decide +kernel
theorem dd_Co_bringBoth_192 : decode cc_Co_bringBoth 192 = .ok (.getfield 98, 3) := by decide +kernel
theorem dd_Co_bringBoth_195 : decode cc_Co_bringBoth 195 = .ok (.iload 10, 2) := by decide +kernel
theorem dd_Co_bringBoth_197 : decode cc_Co_bringBoth 197 = .ok (.laload, 1) := by decide +kernel
theorem dd_Co_bringBoth_198 : decode cc_Co_bringBoth 198 = .ok (.ladd, 1) := by decide +kernel
theorem dd_Co_bringBoth_199 : decode cc_Co_bringBoth 199 = .ok (.invokevirtual 102, 3) := by decide +kernel
theorem dd_Co_bringBoth_202 : decode cc_Co_bringBoth 202 = .ok (.ifCond .ne 5, 3) := by decide +kernel
theorem dd_Co_bringBoth_205 : decode cc_Co_bringBoth 205 = .ok (.iconst 0, 1) := by decide +kernel
theorem dd_Co_bringBoth_206 : decode cc_Co_bringBoth 206 = .ok (.ireturn, 1) := by decide +kernel
theorem dd_Co_bringBoth_207 : decode cc_Co_bringBoth 207 = .ok (.iinc 10 1, 3) := by decide +kernel
theorem dd_Co_bringBoth_210 : decode cc_Co_bringBoth 210 = .ok (.goto (-92), 3) := by decide +kernel
theorem dd_Co_bringBoth_213 : decode cc_Co_bringBoth 213 = .ok (.iinc 6 1, 3) := by decide +kernel
theorem dd_Co_bringBoth_216 : decode cc_Co_bringBoth 216 = .ok (.goto (-184), 3) := by decide +kernel
theorem dd_Co_bringBoth_219 : decode cc_Co_bringBoth 219 = .ok (.iconst 1, 1) := by decide +kernel
theorem dd_Co_bringBoth_220 : decode cc_Co_bringBoth 220 = .ok (.ireturn, 1) := by decide +kernel
set_option maxRecDepth 100000 in
set_option maxHeartbeats 4000000 in
theorem ct_Co_bringBoth (l : Launch) (D : va_G) (dA : Nat → ClassId) (ad : Nat → Nat) (mm : Nat → gm_V) (r : Nat → va_E) {ia ib im : Nat} {tri : Nat → Int32} {st : Option (Nat × Nat)} {en : Nat → Option Nat} {c : co_S} (him : im < 5) (h22 : r 22 = .inr (2, [.ref (ad (2 + 4 * ia)), .ref (ad (2 + 4 * ib)), .ref (ad (2 + 4 * im)), .ref (ad 23)])) (h23 : r 23 = .inl (dA 0, 16, .inl tri)) (hI : co_iv (mm im) tri st en c) {a : am_T} (hia : ia < 5) (hna : ia ≠ im) (hMa : gm_is (mm ia) a) (hba : am_b 1000000001 a) (hsa : am_so (am_ar a)) {b : am_T} (hib : ib < 5) (hnb : ib ≠ im) (hMb : gm_is (mm ib) b) (hbb : am_b 1000000001 b) (hsb : am_so (am_ar b)) {s p q : Nat} {empty : Bool} (hs : s < 16) (hp : p < 16) (hq : q < 16) : gx_Ct l D dA yy_Co_bringBoth cc_Co_bringBoth 13 (some .boolean) 3 0 0 [.ref (ad 22), .int (nI s), .int (nI p), .int (nI q), .int (nI empty.toNat)] (gx_w ad (gm_h dA ad mm r)) (fun v w => ∃ M tri2, w = (gx_w ad (gm_h dA ad (va_up mm im M) (va_up r 23 (.inl (dA 0, 16, .inl tri2))))) ∧ co_bq v M tri2 st en (co_run s (co_both (am_ar a) (am_ar b) p q empty) c)) := by
  refine gx_of (by decide) (Nat.le_of_ble_eq_true rfl) (fun K C _ _ => ?_)
  have hlb64 := hbb.2.1
  obtain ⟨R, hR⟩ : ∃ R, R = co_run s (co_both (am_ar a) (am_ar b) p q empty) c := ⟨_, rfl⟩
  rw [← hR]
  have hl64 := hba.2.1
  have hSl := am_pl_le ((p + 1) * 1024 + 0 * 16 + 0) (am_ar a)
  have loop : ∀ m i c M tri, i + m = (am_pl ((p + 1) * 1024 + 0 * 16 + 0) (am_ar a)) → co_iv M tri st en c → co_run s ((((am_ar a).take (am_pl ((p + 1) * 1024 + 0 * 16 + 0) (am_ar a))).drop i).flatMap (co_bx (am_ar b) q empty)) c = R → gx_G K D 13 0 0 32 [(6, .int (nI i)), (5, .int (nI (am_pl ((p + 1) * 1024 + 0 * 16 + 0) (am_ar a)))), (0, .ref (ad 22)), (1, .int (nI s)), (2, .int (nI p)), (3, .int (nI q)), (4, .int (nI empty.toNat))] [] (gx_w ad (gm_h dA ad (va_up mm im M) (va_up r 23 (.inl (dA 0, 16, .inl tri))))) (gx_Z K D dA 0 0 (fun v w => ∃ M tri2, w = (gx_w ad (gm_h dA ad (va_up mm im M) (va_up r 23 (.inl (dA 0, 16, .inl tri2))))) ∧ co_bq v M tri2 st en R)) := by
    obtain ⟨S, hS⟩ : ∃ S, S = am_pl ((p + 1) * 1024 + 0 * 16 + 0) (am_ar a) := ⟨_, rfl⟩
    rw [← hS] at hSl ⊢
    intro m
    induction m with
    | zero =>
      intro i c M tri hj hI hR
      refine gx_iload C 0 dd_Co_bringBoth_32 (kk := ?_)
      refine gx_iload C 1 dd_Co_bringBoth_34 (kk := ?_)
      refine gx_icmp_ge C 219 dd_Co_bringBoth_36 (fun h36 => ?_) (fun h36 => absurd (nI_le (a := S) (b := i) (by omega) (by omega)) h36)
      refine gx_iconst (v := nI 1) C dd_Co_bringBoth_219 (kk := ?_)
      refine gx_zret C dd_Co_bringBoth_220 (by first | rfl | exact fb_nar) ?_
      rw [show i = S by omega, co_dn] at hR
      exact ⟨M, tri, rfl, by rw [← hR]; exact ⟨rfl, hI⟩⟩
    | succ m ih =>
      intro i c M tri hj hI hR
      obtain ⟨x, hx⟩ : ∃ x, (am_ar a)[i]? = some x := ⟨_, List.getElem?_eq_getElem (by omega)⟩
      obtain ⟨hx1, hx2⟩ := hMa.2.2.2.2 _ _ hx
      obtain ⟨hxb, hxw⟩ := hba.2.2.1 x (List.mem_of_getElem? hx)
      have hLl := am_pl_le (q * 1024 + (8 * (x.1 / 16 % 8 + 1) + 0) * 16 + 0) (am_ar b)
      have inner : ∀ m j c M tri, j + m = (am_pl (q * 1024 + (8 * (x.1 / 16 % 8 + 1) + 0) * 16 + 0) (am_ar b)) → co_iv M tri st en c → co_run s ((((am_ar b).take (am_pl (q * 1024 + (8 * (x.1 / 16 % 8 + 1) + 0) * 16 + 0) (am_ar b))).drop j).map (co_i2 x) ++ (((am_ar a).take S).drop (i + 1)).flatMap (co_bx (am_ar b) q empty)) c = R → gx_G K D 13 0 0 118 [(10, .int (nI j)), (9, .int (nI (am_pl (q * 1024 + (8 * (x.1 / 16 % 8 + 1) + 0) * 16 + 0) (am_ar b)))), (7, .int (nI x.1)), (6, .int (nI i)), (5, .int (nI S)), (0, .ref (ad 22)), (1, .int (nI s)), (2, .int (nI p)), (3, .int (nI q)), (4, .int (nI empty.toNat))] [] (gx_w ad (gm_h dA ad (va_up mm im M) (va_up r 23 (.inl (dA 0, 16, .inl tri))))) (gx_Z K D dA 0 0 (fun v w => ∃ M tri2, w = (gx_w ad (gm_h dA ad (va_up mm im M) (va_up r 23 (.inl (dA 0, 16, .inl tri2))))) ∧ co_bq v M tri2 st en R)) := by
        intro m
        induction m with
        | zero =>
          intro j c M tri hj hI hR
          refine gx_iload C 0 dd_Co_bringBoth_118 (kk := ?_)
          refine gx_iload C 1 dd_Co_bringBoth_120 (kk := ?_)
          refine gx_icmp_ge C 213 dd_Co_bringBoth_122 (fun h122 => ?_) (fun h122 => absurd (nI_le (a := (am_pl (q * 1024 + (8 * (x.1 / 16 % 8 + 1) + 0) * 16 + 0) (am_ar b))) (b := j) (by omega) (by omega)) h122)
          refine gx_iinc C 3 (nI (i + 1)) _ dd_Co_bringBoth_213 (nI_1 i) (kk := ?_)
          refine gx_goto C 32 dd_Co_bringBoth_216 (kk := ?_)
          refine gx_loc [0, 4, 5, 6, 7, 8, 9] ?_
          rw [show j = (am_pl (q * 1024 + (8 * (x.1 / 16 % 8 + 1) + 0) * 16 + 0) (am_ar b)) by omega, co_dn] at hR
          exact ih (i + 1) c M tri (by omega) hI hR
        | succ m ihI =>
          intro j c M tri hj hI hR
          obtain ⟨y, hy⟩ : ∃ x, (am_ar b)[j]? = some x := ⟨_, List.getElem?_eq_getElem (by omega)⟩
          obtain ⟨hy1, hy2⟩ := hMb.2.2.2.2 _ _ hy
          obtain ⟨hyb, hyw⟩ := hbb.2.2.1 y (List.mem_of_getElem? hy)
          refine gx_iload C 0 dd_Co_bringBoth_118 (kk := ?_)
          refine gx_iload C 1 dd_Co_bringBoth_120 (kk := ?_)
          refine gx_icmp_ge C 213 dd_Co_bringBoth_122 (fun h122 => absurd h122 (nI_ge (by omega) (by omega))) (fun h122 => ?_)
          refine gx_iload C 2 dd_Co_bringBoth_125 (kk := ?_)
          refine gx_callS C (ct_WM_toOf (gx_l K) D dA _ x.1 (by omega)) me_WM_toOf ml_Co_92 ms_WM_toOf dd_Co_bringBoth_127 (kk := fun v w hq => ?_)
          obtain ⟨rfl, rfl⟩ := hq
          refine gx_aload_n C 5 dd_Co_bringBoth_130 (kk := ?_)
          refine gx_get C fd_Co_19 (gm_r ((gm_un (by decide)).trans h22)) dd_Co_bringBoth_131 (kk := ?_)
          refine gm_get C fd_Co_82 (by assumption) dd_Co_bringBoth_134 (kk := ?_)
          refine gx_iload C 0 dd_Co_bringBoth_137 (kk := ?_)
          refine gm_ln_k C hib dd_Co_bringBoth_139 (by omega) (kk := ?_)
          refine gx_topi (nI y.1) (by rw [gm_un hnb]; exact hy1) ?_
          refine gx_callS C (ct_WM_toOf (gx_l K) D dA _ y.1 (by omega)) me_WM_toOf ml_Co_92 ms_WM_toOf dd_Co_bringBoth_140 (kk := fun v w hq => ?_)
          obtain ⟨rfl, rfl⟩ := hq
          refine gx_iconst (v := nI 0) C dd_Co_bringBoth_143 (kk := ?_)
          refine gx_callS C (ct_Co_tripleOf (gx_l K) D dA _ (x.1 % 16) (y.1 % 16) 0 (by omega) (by omega) (by omega)) me_Co_tripleOf ml_Co_35 ms_Co_tripleOf dd_Co_bringBoth_144 (kk := fun v w hq => ?_)
          obtain ⟨rfl, rfl⟩ := hq
          refine gx_istore C _ dd_Co_bringBoth_147 (kk := ?_)
          refine gx_iload C 3 dd_Co_bringBoth_149 (kk := ?_)
          refine gx_callS C (ct_WM_inOf (gx_l K) D dA _ x.1 (by omega)) me_WM_inOf ml_Co_95 ms_WM_inOf dd_Co_bringBoth_151 (kk := fun v w hq => ?_)
          obtain ⟨rfl, rfl⟩ := hq
          refine gx_aload_n C 6 dd_Co_bringBoth_154 (kk := ?_)
          refine gx_get C fd_Co_19 (gm_r ((gm_un (by decide)).trans h22)) dd_Co_bringBoth_155 (kk := ?_)
          refine gm_get C fd_Co_82 (by assumption) dd_Co_bringBoth_158 (kk := ?_)
          refine gx_iload C 1 dd_Co_bringBoth_161 (kk := ?_)
          refine gm_ln_k C hib dd_Co_bringBoth_163 (by omega) (kk := ?_)
          refine gx_topi (nI y.1) (by rw [gm_un hnb]; exact hy1) ?_
          refine gx_callS C (ct_WM_outOf (gx_l K) D dA _ y.1 (by omega)) me_WM_outOf ml_Co_85 ms_WM_outOf dd_Co_bringBoth_164 (kk := fun v w hq => ?_)
          obtain ⟨rfl, rfl⟩ := hq
          refine gx_callS C (ct_WM_labelPair (gx_l K) D dA _ (x.1 / 128 % 8) (y.1 / 16 % 8)) me_WM_labelPair ml_Co_88 ms_WM_labelPair dd_Co_bringBoth_167 (kk := fun v w hq => ?_)
          obtain ⟨rfl, rfl⟩ := hq
          refine gx_istore C _ dd_Co_bringBoth_170 (kk := ?_)
          refine gx_aload_n C 7 dd_Co_bringBoth_172 (kk := ?_)
          refine gx_iload_n C 8 dd_Co_bringBoth_173 (kk := ?_)
          refine gx_iload C 1 dd_Co_bringBoth_174 (kk := ?_)
          refine gx_iload C 0 dd_Co_bringBoth_176 (kk := ?_)
          refine gx_aload_n C 7 dd_Co_bringBoth_178 (kk := ?_)
          refine gx_get C fd_Co_15 (gm_r ((gm_un (by decide)).trans h22)) dd_Co_bringBoth_179 (kk := ?_)
          refine gm_get C fd_Co_98 (by assumption) dd_Co_bringBoth_182 (kk := ?_)
          refine gx_iload C 5 dd_Co_bringBoth_185 (kk := ?_)
          refine gm_ln_g C hia dd_Co_bringBoth_187 (by omega) (kk := ?_)
          refine gx_topl (lN x.2) (by rw [gm_un hna]; exact hx2) ?_
          refine gx_aload_n C 7 dd_Co_bringBoth_188 (kk := ?_)
          refine gx_get C fd_Co_19 (gm_r ((gm_un (by decide)).trans h22)) dd_Co_bringBoth_189 (kk := ?_)
          refine gm_get C fd_Co_98 (by assumption) dd_Co_bringBoth_192 (kk := ?_)
          refine gx_iload C 2 dd_Co_bringBoth_195 (kk := ?_)
          refine gm_ln_g C hib dd_Co_bringBoth_197 (by omega) (kk := ?_)
          refine gx_topl (lN y.2) (by rw [gm_un hnb]; exact hy2) ?_
          refine gx_ladd C dd_Co_bringBoth_198 (kk := ?_)
          refine gx_topl _ (lN_add _ _) ?_
          refine gx_callV C (ct_Co_bring (gx_l K) D dA ad (va_up mm im M) (va_up r 23 (.inl (dA 0, 16, .inl tri))) (s := s) (x := co_i2 x y) him ((gm_un (by decide)).trans h22) gm_us (by rw [gm_us]; exact hI) hs (by show 8 * (x.1 / 128 % 8) + y.1 / 16 % 8 < 64; omega) (by show x.2 + y.2 < 4000000000; omega) ⟨by show x.1 % 16 < 16; omega, by show y.1 % 16 < 16; omega, by show 0 < 3; decide⟩) me_Co_bring ml_Co_102 mn_Co_bring _ (gx_w_at (by decide) (gm_r ((gm_un (by decide)).trans h22))) rfl dd_Co_bringBoth_199 (kk := fun v w hq => ?_)
          obtain ⟨M2, tri2, rfl, hq⟩ := hq
          rw [gm_uu, gm_uu]
          rcases hbr : co_br s c (co_i2 x y) with _ | c2
          · rw [hbr] at hq
            have hq : v = some (.int (nI 0)) := hq
            subst hq
            refine gx_if_ne C 207 dd_Co_bringBoth_202 (fun h202 => absurd rfl h202) (fun h202 => ?_)
            refine gx_iconst (v := nI 0) C dd_Co_bringBoth_205 (kk := ?_)
            refine gx_zret C dd_Co_bringBoth_206 (by first | rfl | exact fb_nar) ?_
            rw [co_dc hy (by omega), List.map_cons, List.cons_append, co_run_c, hbr] at hR
            exact ⟨M2, tri2, rfl, by rw [← hR]; rfl⟩
          · rw [hbr] at hq
            obtain ⟨hv, hI2⟩ := hq
            subst hv
            refine gx_if_ne C 207 dd_Co_bringBoth_202 (fun h202 => ?_) (fun h202 => absurd h202 (by decide))
            refine gx_iinc C 2 (nI (j + 1)) _ dd_Co_bringBoth_207 (nI_1 j) (kk := ?_)
            refine gx_goto C 118 dd_Co_bringBoth_210 (kk := ?_)
            refine gx_loc [0, 3, 4, 5, 6, 7, 8, 9, 10, 11] ?_
            rw [co_dc hy (by omega), List.map_cons, List.cons_append, co_run_c, hbr] at hR
            exact ihI (j + 1) c2 M2 tri2 (by omega) hI2 hR
      refine gx_iload C 0 dd_Co_bringBoth_32 (kk := ?_)
      refine gx_iload C 1 dd_Co_bringBoth_34 (kk := ?_)
      refine gx_icmp_ge C 219 dd_Co_bringBoth_36 (fun h36 => absurd h36 (nI_ge (by omega) (by omega))) (fun h36 => ?_)
      refine gx_aload_n C 2 dd_Co_bringBoth_39 (kk := ?_)
      refine gx_get C fd_Co_15 (gm_r ((gm_un (by decide)).trans h22)) dd_Co_bringBoth_40 (kk := ?_)
      refine gm_get C fd_Co_82 (by assumption) dd_Co_bringBoth_43 (kk := ?_)
      refine gx_iload C 0 dd_Co_bringBoth_46 (kk := ?_)
      refine gm_ln_k C hia dd_Co_bringBoth_48 (by omega) (kk := ?_)
      refine gx_topi (nI x.1) (by rw [gm_un hna]; exact hx1) ?_
      refine gx_istore C _ dd_Co_bringBoth_49 (kk := ?_)
      refine gx_iload C 0 dd_Co_bringBoth_51 (kk := ?_)
      refine gx_callS C (ct_WM_outOf (gx_l K) D dA _ x.1 (by omega)) me_WM_outOf ml_Co_85 ms_WM_outOf dd_Co_bringBoth_53 (kk := fun v w hq => ?_)
      obtain ⟨rfl, rfl⟩ := hq
      refine gx_istore C _ dd_Co_bringBoth_56 (kk := ?_)
      refine gx_iload C 0 dd_Co_bringBoth_58 (kk := ?_)
      refine gx_if_ne C 67 dd_Co_bringBoth_60 (fun h60 => ?_) (fun h60 => ?_)
      · refine gx_iconst (v := nI 0) C dd_Co_bringBoth_67 (kk := ?_)
        refine gx_iload C 8 dd_Co_bringBoth_68 (kk := ?_)
        refine gx_icmp_eq C 76 dd_Co_bringBoth_70 (fun h70 => ?_) (fun h70 => ?_)
        · refine gx_aload_n C 4 dd_Co_bringBoth_76 (kk := ?_)
          refine gx_get C fd_Co_19 (gm_r ((gm_un (by decide)).trans h22)) dd_Co_bringBoth_77 (kk := ?_)
          refine gx_iload_n C 7 dd_Co_bringBoth_80 (kk := ?_)
          refine gx_iload C 0 dd_Co_bringBoth_81 (kk := ?_)
          refine gx_iconst (v := nI 1) C dd_Co_bringBoth_83 (kk := ?_)
          refine gx_iadd C dd_Co_bringBoth_84 (kk := ?_)
          refine gx_topi _ (nI_add _ _) ?_
          refine gx_iconst (v := nI 0) C dd_Co_bringBoth_85 (kk := ?_)
          refine gx_callS C (ct_WM_labelPair (gx_l K) D dA _ (x.1 / 16 % 8 + 1) (0)) me_WM_labelPair ml_Co_88 ms_WM_labelPair dd_Co_bringBoth_86 (kk := fun v w hq => ?_)
          obtain ⟨rfl, rfl⟩ := hq
          refine gx_iconst (v := nI 0) C dd_Co_bringBoth_89 (kk := ?_)
          refine gx_callS C (ct_WM_keyOf (gx_l K) D dA _ (q) (8 * (x.1 / 16 % 8 + 1) + 0) (0) (by omega) (by omega) (by omega)) me_WM_keyOf ml_Co_76 ms_WM_keyOf dd_Co_bringBoth_90 (kk := fun v w hq => ?_)
          obtain ⟨rfl, rfl⟩ := hq
          refine gx_callV C (ct_Ma_placeOf (gx_l K) D dA ad (va_up mm im M) (va_up r 23 (.inl (dA 0, 16, .inl tri))) (key := q * 1024 + (8 * (x.1 / 16 % 8 + 1) + 0) * 16 + 0) hib (by rw [gm_un hnb]; exact hMb) (by omega) hbb.2.1 (fun x hx => (hbb.2.2.1 x hx).1) hsb) me_Ma_placeOf ml_Co_79 mn_Ma_placeOf _ (gx_w_at (by omega) (gm_at (j := 0) hib (by decide))) rfl dd_Co_bringBoth_93 (kk := fun v w hq => ?_)
          obtain ⟨rfl, rfl⟩ := hq
          refine gx_istore C _ dd_Co_bringBoth_96 (kk := ?_)
          refine gx_aload_n C 5 dd_Co_bringBoth_98 (kk := ?_)
          refine gx_get C fd_Co_19 (gm_r ((gm_un (by decide)).trans h22)) dd_Co_bringBoth_99 (kk := ?_)
          refine gx_iload_n C 8 dd_Co_bringBoth_102 (kk := ?_)
          refine gx_iload C 1 dd_Co_bringBoth_103 (kk := ?_)
          refine gx_iconst (v := nI 0) C dd_Co_bringBoth_105 (kk := ?_)
          refine gx_callS C (ct_WM_labelPair (gx_l K) D dA _ (x.1 / 16 % 8) (0)) me_WM_labelPair ml_Co_88 ms_WM_labelPair dd_Co_bringBoth_106 (kk := fun v w hq => ?_)
          obtain ⟨rfl, rfl⟩ := hq
          refine gx_iconst (v := nI 0) C dd_Co_bringBoth_109 (kk := ?_)
          refine gx_callS C (ct_WM_keyOf (gx_l K) D dA _ (q) (8 * (x.1 / 16 % 8) + 0) (0) (by omega) (by omega) (by omega)) me_WM_keyOf ml_Co_76 ms_WM_keyOf dd_Co_bringBoth_110 (kk := fun v w hq => ?_)
          obtain ⟨rfl, rfl⟩ := hq
          refine gx_callV C (ct_Ma_placeOf (gx_l K) D dA ad (va_up mm im M) (va_up r 23 (.inl (dA 0, 16, .inl tri))) (key := q * 1024 + (8 * (x.1 / 16 % 8) + 0) * 16 + 0) hib (by rw [gm_un hnb]; exact hMb) (by omega) hbb.2.1 (fun x hx => (hbb.2.2.1 x hx).1) hsb) me_Ma_placeOf ml_Co_79 mn_Ma_placeOf _ (gx_w_at (by omega) (gm_at (j := 0) hib (by decide))) rfl dd_Co_bringBoth_113 (kk := fun v w hq => ?_)
          obtain ⟨rfl, rfl⟩ := hq
          refine gx_istore C _ dd_Co_bringBoth_116 (kk := ?_)
          refine gx_loc [0, 1, 3, 4, 5, 6, 7, 8, 9, 10] ?_
          rw [show (0 : Int32) = nI 0 from rfl, nI_eq (by omega) (by decide)] at h60
          have hee : decide (x.1 / 16 % 8 = 0) = empty := by
            rw [decide_eq_false h60]
            cases empty with
            | false => first | rfl | exact absurd h70 (by decide)
            | true => first | rfl | exact absurd h70 (by decide)
          have hf1 : co_bx (am_ar b) q empty x = ((am_ar b).filter (fun y => decide (y.1 / 128 = q * 8 + x.1 / 16 % 8))).map (co_i2 x) := if_pos hee
          rw [co_dc hx (by omega), List.flatMap_cons, hf1, ← co_lr hsb] at hR
          exact inner ((am_pl (q * 1024 + (8 * (x.1 / 16 % 8 + 1) + 0) * 16 + 0) (am_ar b)) - (am_pl (q * 1024 + (8 * (x.1 / 16 % 8) + 0) * 16 + 0) (am_ar b))) (am_pl (q * 1024 + (8 * (x.1 / 16 % 8) + 0) * 16 + 0) (am_ar b)) c M tri (by have := am_pl_mono (lo := q * 1024 + (8 * (x.1 / 16 % 8) + 0) * 16 + 0) (hi := q * 1024 + (8 * (x.1 / 16 % 8 + 1) + 0) * 16 + 0) (by omega) (am_ar b); omega) hI hR
        · refine gx_goto C 213 dd_Co_bringBoth_73 (kk := ?_)
          refine gx_iinc C 2 (nI (i + 1)) _ dd_Co_bringBoth_213 (nI_1 i) (kk := ?_)
          refine gx_goto C 32 dd_Co_bringBoth_216 (kk := ?_)
          refine gx_loc [0, 3, 4, 5, 6, 7, 8] ?_
          rw [show (0 : Int32) = nI 0 from rfl, nI_eq (by omega) (by decide)] at h60
          have hne : ¬ decide (x.1 / 16 % 8 = 0) = empty := by
            rw [decide_eq_false h60]
            cases empty with
            | false => first | decide | exact absurd rfl h70
            | true => first | decide | exact absurd rfl h70
          have hf1 : co_bx (am_ar b) q empty x = [] := if_neg hne
          rw [co_dc hx (by omega), List.flatMap_cons, hf1, List.nil_append] at hR
          exact ih (i + 1) c M tri (by omega) hI hR
      · refine gx_iconst (v := nI 1) C dd_Co_bringBoth_63 (kk := ?_)
        refine gx_goto C 68 dd_Co_bringBoth_64 (kk := ?_)
        refine gx_iload C 8 dd_Co_bringBoth_68 (kk := ?_)
        refine gx_icmp_eq C 76 dd_Co_bringBoth_70 (fun h70 => ?_) (fun h70 => ?_)
        · refine gx_aload_n C 4 dd_Co_bringBoth_76 (kk := ?_)
          refine gx_get C fd_Co_19 (gm_r ((gm_un (by decide)).trans h22)) dd_Co_bringBoth_77 (kk := ?_)
          refine gx_iload_n C 7 dd_Co_bringBoth_80 (kk := ?_)
          refine gx_iload C 0 dd_Co_bringBoth_81 (kk := ?_)
          refine gx_iconst (v := nI 1) C dd_Co_bringBoth_83 (kk := ?_)
          refine gx_iadd C dd_Co_bringBoth_84 (kk := ?_)
          refine gx_topi _ (nI_add _ _) ?_
          refine gx_iconst (v := nI 0) C dd_Co_bringBoth_85 (kk := ?_)
          refine gx_callS C (ct_WM_labelPair (gx_l K) D dA _ (x.1 / 16 % 8 + 1) (0)) me_WM_labelPair ml_Co_88 ms_WM_labelPair dd_Co_bringBoth_86 (kk := fun v w hq => ?_)
          obtain ⟨rfl, rfl⟩ := hq
          refine gx_iconst (v := nI 0) C dd_Co_bringBoth_89 (kk := ?_)
          refine gx_callS C (ct_WM_keyOf (gx_l K) D dA _ (q) (8 * (x.1 / 16 % 8 + 1) + 0) (0) (by omega) (by omega) (by omega)) me_WM_keyOf ml_Co_76 ms_WM_keyOf dd_Co_bringBoth_90 (kk := fun v w hq => ?_)
          obtain ⟨rfl, rfl⟩ := hq
          refine gx_callV C (ct_Ma_placeOf (gx_l K) D dA ad (va_up mm im M) (va_up r 23 (.inl (dA 0, 16, .inl tri))) (key := q * 1024 + (8 * (x.1 / 16 % 8 + 1) + 0) * 16 + 0) hib (by rw [gm_un hnb]; exact hMb) (by omega) hbb.2.1 (fun x hx => (hbb.2.2.1 x hx).1) hsb) me_Ma_placeOf ml_Co_79 mn_Ma_placeOf _ (gx_w_at (by omega) (gm_at (j := 0) hib (by decide))) rfl dd_Co_bringBoth_93 (kk := fun v w hq => ?_)
          obtain ⟨rfl, rfl⟩ := hq
          refine gx_istore C _ dd_Co_bringBoth_96 (kk := ?_)
          refine gx_aload_n C 5 dd_Co_bringBoth_98 (kk := ?_)
          refine gx_get C fd_Co_19 (gm_r ((gm_un (by decide)).trans h22)) dd_Co_bringBoth_99 (kk := ?_)
          refine gx_iload_n C 8 dd_Co_bringBoth_102 (kk := ?_)
          refine gx_iload C 1 dd_Co_bringBoth_103 (kk := ?_)
          refine gx_iconst (v := nI 0) C dd_Co_bringBoth_105 (kk := ?_)
          refine gx_callS C (ct_WM_labelPair (gx_l K) D dA _ (x.1 / 16 % 8) (0)) me_WM_labelPair ml_Co_88 ms_WM_labelPair dd_Co_bringBoth_106 (kk := fun v w hq => ?_)
          obtain ⟨rfl, rfl⟩ := hq
          refine gx_iconst (v := nI 0) C dd_Co_bringBoth_109 (kk := ?_)
          refine gx_callS C (ct_WM_keyOf (gx_l K) D dA _ (q) (8 * (x.1 / 16 % 8) + 0) (0) (by omega) (by omega) (by omega)) me_WM_keyOf ml_Co_76 ms_WM_keyOf dd_Co_bringBoth_110 (kk := fun v w hq => ?_)
          obtain ⟨rfl, rfl⟩ := hq
          refine gx_callV C (ct_Ma_placeOf (gx_l K) D dA ad (va_up mm im M) (va_up r 23 (.inl (dA 0, 16, .inl tri))) (key := q * 1024 + (8 * (x.1 / 16 % 8) + 0) * 16 + 0) hib (by rw [gm_un hnb]; exact hMb) (by omega) hbb.2.1 (fun x hx => (hbb.2.2.1 x hx).1) hsb) me_Ma_placeOf ml_Co_79 mn_Ma_placeOf _ (gx_w_at (by omega) (gm_at (j := 0) hib (by decide))) rfl dd_Co_bringBoth_113 (kk := fun v w hq => ?_)
          obtain ⟨rfl, rfl⟩ := hq
          refine gx_istore C _ dd_Co_bringBoth_116 (kk := ?_)
          refine gx_loc [0, 1, 3, 4, 5, 6, 7, 8, 9, 10] ?_
          rw [show (0 : Int32) = nI 0 from rfl, nI_eq (by omega) (by decide)] at h60
          have hee : decide (x.1 / 16 % 8 = 0) = empty := by
            rw [decide_eq_true h60]
            cases empty with
            | false => first | rfl | exact absurd h70 (by decide)
            | true => first | rfl | exact absurd h70 (by decide)
          have hf1 : co_bx (am_ar b) q empty x = ((am_ar b).filter (fun y => decide (y.1 / 128 = q * 8 + x.1 / 16 % 8))).map (co_i2 x) := if_pos hee
          rw [co_dc hx (by omega), List.flatMap_cons, hf1, ← co_lr hsb] at hR
          exact inner ((am_pl (q * 1024 + (8 * (x.1 / 16 % 8 + 1) + 0) * 16 + 0) (am_ar b)) - (am_pl (q * 1024 + (8 * (x.1 / 16 % 8) + 0) * 16 + 0) (am_ar b))) (am_pl (q * 1024 + (8 * (x.1 / 16 % 8) + 0) * 16 + 0) (am_ar b)) c M tri (by have := am_pl_mono (lo := q * 1024 + (8 * (x.1 / 16 % 8) + 0) * 16 + 0) (hi := q * 1024 + (8 * (x.1 / 16 % 8 + 1) + 0) * 16 + 0) (by omega) (am_ar b); omega) hI hR
        · refine gx_goto C 213 dd_Co_bringBoth_73 (kk := ?_)
          refine gx_iinc C 2 (nI (i + 1)) _ dd_Co_bringBoth_213 (nI_1 i) (kk := ?_)
          refine gx_goto C 32 dd_Co_bringBoth_216 (kk := ?_)
          refine gx_loc [0, 3, 4, 5, 6, 7, 8] ?_
          rw [show (0 : Int32) = nI 0 from rfl, nI_eq (by omega) (by decide)] at h60
          have hne : ¬ decide (x.1 / 16 % 8 = 0) = empty := by
            rw [decide_eq_true h60]
            cases empty with
            | false => first | decide | exact absurd rfl h70
            | true => first | decide | exact absurd rfl h70
          have hf1 : co_bx (am_ar b) q empty x = [] := if_neg hne
          rw [co_dc hx (by omega), List.flatMap_cons, hf1, List.nil_append] at hR
          exact ih (i + 1) c M tri (by omega) hI hR
  refine gx_aload_n C 0 dd_Co_bringBoth_0 (kk := ?_)
  refine gx_get C fd_Co_15 (gm_r h22) dd_Co_bringBoth_1 (kk := ?_)
  refine gx_iload_n C 2 dd_Co_bringBoth_4 (kk := ?_)
  refine gx_iconst (v := nI 1) C dd_Co_bringBoth_5 (kk := ?_)
  refine gx_iadd C dd_Co_bringBoth_6 (kk := ?_)
  refine gx_topi _ (nI_add _ _) ?_
  refine gx_iconst (v := nI 0) C dd_Co_bringBoth_7 (kk := ?_)
  refine gx_iconst (v := nI 0) C dd_Co_bringBoth_8 (kk := ?_)
  refine gx_callS C (ct_WM_keyOf (gx_l K) D dA _ (p + 1) (0) (0) (by omega) (by omega) (by omega)) me_WM_keyOf ml_Co_76 ms_WM_keyOf dd_Co_bringBoth_9 (kk := fun v w hq => ?_)
  obtain ⟨rfl, rfl⟩ := hq
  refine gx_callV C (ct_Ma_placeOf (gx_l K) D dA ad mm r (key := (p + 1) * 1024 + 0 * 16 + 0) hia hMa (by omega) hba.2.1 (fun x hx => (hba.2.2.1 x hx).1) hsa) me_Ma_placeOf ml_Co_79 mn_Ma_placeOf _ (gx_w_at (by omega) (gm_at (j := 0) hia (by decide))) rfl dd_Co_bringBoth_12 (kk := fun v w hq => ?_)
  obtain ⟨rfl, rfl⟩ := hq
  refine gx_istore C _ dd_Co_bringBoth_15 (kk := ?_)
  refine gx_aload_n C 1 dd_Co_bringBoth_17 (kk := ?_)
  refine gx_get C fd_Co_15 (gm_r h22) dd_Co_bringBoth_18 (kk := ?_)
  refine gx_iload_n C 3 dd_Co_bringBoth_21 (kk := ?_)
  refine gx_iconst (v := nI 0) C dd_Co_bringBoth_22 (kk := ?_)
  refine gx_iconst (v := nI 0) C dd_Co_bringBoth_23 (kk := ?_)
  refine gx_callS C (ct_WM_keyOf (gx_l K) D dA _ (p) (0) (0) (by omega) (by omega) (by omega)) me_WM_keyOf ml_Co_76 ms_WM_keyOf dd_Co_bringBoth_24 (kk := fun v w hq => ?_)
  obtain ⟨rfl, rfl⟩ := hq
  refine gx_callV C (ct_Ma_placeOf (gx_l K) D dA ad mm r (key := p * 1024 + 0 * 16 + 0) hia hMa (by omega) hba.2.1 (fun x hx => (hba.2.2.1 x hx).1) hsa) me_Ma_placeOf ml_Co_79 mn_Ma_placeOf _ (gx_w_at (by omega) (gm_at (j := 0) hia (by decide))) rfl dd_Co_bringBoth_27 (kk := fun v w hq => ?_)
  obtain ⟨rfl, rfl⟩ := hq
  refine gx_istore C _ dd_Co_bringBoth_30 (kk := ?_)
  refine gx_wld ?_ (loop (am_pl ((p + 1) * 1024 + 0 * 16 + 0) (am_ar a) - am_pl (p * 1024 + 0 * 16 + 0) (am_ar a)) (am_pl (p * 1024 + 0 * 16 + 0) (am_ar a)) c (mm im) tri (by have := am_pl_mono (lo := p * 1024 + 0 * 16 + 0) (hi := (p + 1) * 1024 + 0 * 16 + 0) (by omega) (am_ar a); omega) hI (by rw [co_fr hsa p]; exact hR.symm))
  rw [gm_ue, ← h23, gm_ue]
