theorem dd_On_look_0 : decode cc_On_look 0 = .ok (.iconst 0, 1) := by decide +kernel
theorem dd_On_look_1 : decode cc_On_look 1 = .ok (.istore_n 2, 1) := by decide +kernel
theorem dd_On_look_2 : decode cc_On_look 2 = .ok (.iload_n 2, 1) := by decide +kernel
theorem dd_On_look_3 : decode cc_On_look 3 = .ok (.aload_n 1, 1) := by decide +kernel
theorem dd_On_look_4 : decode cc_On_look 4 = .ok (.getfield 15, 3) := by decide +kernel
theorem dd_On_look_7 : decode cc_On_look 7 = .ok (.if_icmp .ge 44, 3) := by decide +kernel
theorem dd_On_look_10 : decode cc_On_look 10 = .ok (.aload_n 0, 1) := by decide +kernel
theorem dd_On_look_11 : decode cc_On_look 11 = .ok (.getfield 9, 3) := by decide +kernel
theorem dd_On_look_14 : decode cc_On_look 14 = .ok (.iload_n 2, 1) := by decide +kernel
theorem dd_On_look_15 : decode cc_On_look 15 = .ok (.aload_n 1, 1) := by decide +kernel
theorem dd_On_look_16 : decode cc_On_look 16 = .ok (.getfield 21, 3) := by decide +kernel
theorem dd_On_look_19 : decode cc_On_look 19 = .ok (.iload_n 2, 1) := by decide +kernel
theorem dd_On_look_20 : decode cc_On_look 20 = .ok (.laload, 1) := by decide +kernel
theorem dd_On_look_21 : decode cc_On_look 21 = .ok (.ldc2_w 24, 3) := by decide +kernel
theorem dd_On_look_24 : decode cc_On_look 24 = .ok (.lcmp, 1) := by decide +kernel
theorem dd_On_look_25 : decode cc_On_look 25 = .ok (.ifCond .ne 9, 3) := by decide +kernel
theorem dd_On_look_28 : decode cc_On_look 28 = .ok (.ldc2_w 26, 3) := by decide +kernel
theorem dd_On_look_31 : decode cc_On_look 31 = .ok (.goto 13, 3) := by decide +kernel
theorem dd_On_look_34 : decode cc_On_look 34 = .ok (.aload_n 1, 1) := by decide +kernel
theorem dd_On_look_35 : decode cc_On_look 35 = .ok (.getfield 21, 3) := by decide +kernel
theorem dd_On_look_38 : decode cc_On_look 38 = .ok (.iload_n 2, 1) := by decide +kernel
theorem dd_On_look_39 : decode cc_On_look 39 = .ok (.laload, 1) := by decide +kernel
theorem dd_On_look_40 : decode cc_On_look 40 = .ok (.ldc2_w 28, 3) := by decide +kernel
theorem dd_On_look_43 : decode cc_On_look 43 = .ok (.lmul, 1) := by decide +kernel
theorem dd_On_look_44 : decode cc_On_look 44 = .ok (.lastore, 1) := by decide +kernel
theorem dd_On_look_45 : decode cc_On_look 45 = .ok (.iinc 2 1, 3) := by decide +kernel
theorem dd_On_look_48 : decode cc_On_look 48 = .ok (.goto (-46), 3) := by decide +kernel
theorem dd_On_look_51 : decode cc_On_look 51 = .ok (.iconst 1, 1) := by decide +kernel
theorem dd_On_look_52 : decode cc_On_look 52 = .ok (.istore_n 2, 1) := by decide +kernel
theorem dd_On_look_53 : decode cc_On_look 53 = .ok (.iconst 0, 1) := by decide +kernel
theorem dd_On_look_54 : decode cc_On_look 54 = .ok (.istore_n 3, 1) := by decide +kernel
theorem dd_On_look_55 : decode cc_On_look 55 = .ok (.iload_n 3, 1) := by decide +kernel
theorem dd_On_look_56 : decode cc_On_look 56 = .ok (.aload_n 1, 1) := by decide +kernel
theorem dd_On_look_57 : decode cc_On_look 57 = .ok (.getfield 15, 3) := by decide +kernel
theorem dd_On_look_60 : decode cc_On_look 60 = .ok (.if_icmp .ge 82, 3) := by decide +kernel
theorem dd_On_look_63 : decode cc_On_look 63 = .ok (.iload_n 2, 1) := by decide +kernel
theorem dd_On_look_64 : decode cc_On_look 64 = .ok (.ifCond .eq 78, 3) := by decide +kernel
theorem dd_On_look_67 : decode cc_On_look 67 = .ok (.iconst 0, 1) := by decide +kernel
theorem dd_On_look_68 : decode cc_On_look 68 = .ok (.istore_n 2, 1) := by decide +kernel
theorem dd_On_look_69 : decode cc_On_look 69 = .ok (.iconst 0, 1) := by decide +kernel
theorem dd_On_look_70 : decode cc_On_look 70 = .ok (.istore 4, 2) := by decide +kernel
theorem dd_On_look_72 : decode cc_On_look 72 = .ok (.iload 4, 2) := by decide +kernel
theorem dd_On_look_74 : decode cc_On_look 74 = .ok (.aload_n 1, 1) := by decide +kernel
theorem dd_On_look_75 : decode cc_On_look 75 = .ok (.getfield 30, 3) := by decide +kernel
theorem dd_On_look_78 : decode cc_On_look 78 = .ok (.if_icmp .ge 58, 3) := by decide +kernel
theorem dd_On_look_81 : decode cc_On_look 81 = .ok (.aload_n 0, 1) := by decide +kernel
theorem dd_On_look_82 : decode cc_On_look 82 = .ok (.aload_n 1, 1) := by decide +kernel
theorem dd_On_look_83 : decode cc_On_look 83 = .ok (.iload 4, 2) := by decide +kernel
theorem dd_On_look_85 : decode cc_On_look 85 = .ok (.invokevirtual 33, 3) := by decide +kernel
theorem dd_On_look_88 : decode cc_On_look 88 = .ok (.lstore 5, 2) := by decide +kernel
theorem dd_On_look_90 : decode cc_On_look 90 = .ok (.lload 5, 2) := by decide +kernel
theorem dd_On_look_92 : decode cc_On_look 92 = .ok (.aload_n 0, 1) := by decide +kernel
theorem dd_On_look_93 : decode cc_On_look 93 = .ok (.getfield 9, 3) := by decide +kernel
theorem dd_On_look_96 : decode cc_On_look 96 = .ok (.aload_n 1, 1) := by decide +kernel
theorem dd_On_look_97 : decode cc_On_look 97 = .ok (.getfield 37, 3) := by decide +kernel
theorem dd_On_look_100 : decode cc_On_look 100 = .ok (.iload 4, 2) := by decide +kernel
theorem dd_On_look_102 : decode cc_On_look 102 = .ok (.iaload, 1) := by decide +kernel
theorem dd_On_look_103 : decode cc_On_look 103 = .ok (.invokestatic 41, 3) := by decide +kernel
theorem dd_On_look_106 : decode cc_On_look 106 = .ok (.laload, 1) := by decide +kernel
theorem dd_On_look_107 : decode cc_On_look 107 = .ok (.lcmp, 1) := by decide +kernel
theorem dd_On_look_108 : decode cc_On_look 108 = .ok (.ifCond .ge 22, 3) := by decide +kernel
theorem dd_On_look_111 : decode cc_On_look 111 = .ok (.aload_n 0, 1) := by decide +kernel
theorem dd_On_look_112 : decode cc_On_look 112 = .ok (.getfield 9, 3) := by decide +kernel
theorem dd_On_look_115 : decode cc_On_look 115 = .ok (.aload_n 1, 1) := by decide +kernel
theorem dd_On_look_116 : decode cc_On_look 116 = .ok (.getfield 37, 3) := by decide +kernel
theorem dd_On_look_119 : decode cc_On_look 119 = .ok (.iload 4, 2) := by decide +kernel
theorem dd_On_look_121 : decode cc_On_look 121 = .ok (.iaload, 1) := by decide +kernel
theorem dd_On_look_122 : decode cc_On_look 122 = .ok (.invokestatic 41, 3) := by decide +kernel
theorem dd_On_look_125 : decode cc_On_look 125 = .ok (.lload 5, 2) := by decide +kernel
theorem dd_On_look_127 : decode cc_On_look 127 = .ok (.lastore, 1) := by decide +kernel
theorem dd_On_look_128 : decode cc_On_look 128 = .ok (.iconst 1, 1) := by decide +kernel
theorem dd_On_look_129 : decode cc_On_look 129 = .ok (.istore_n 2, 1) := by decide +kernel
theorem dd_On_look_130 : decode cc_On_look 130 = .ok (.iinc 4 1, 3) := by decide +kernel
theorem dd_On_look_133 : decode cc_On_look 133 = .ok (.goto (-61), 3) := by decide +kernel
theorem dd_On_look_136 : decode cc_On_look 136 = .ok (.iinc 3 1, 3) := by decide +kernel
theorem dd_On_look_139 : decode cc_On_look 139 = .ok (.goto (-84), 3) := by decide +kernel
theorem dd_On_look_142 : decode cc_On_look 142 = .ok (.return_, 1) := by decide +kernel
theorem dd_On_costAlong_0 : decode cc_On_costAlong 0 = .ok (.aload_n 0, 1) := by decide +kernel
theorem dd_On_costAlong_1 : decode cc_On_costAlong 1 = .ok (.getfield 9, 3) := by decide +kernel
theorem dd_On_costAlong_4 : decode cc_On_costAlong 4 = .ok (.aload_n 1, 1) := by decide +kernel
theorem dd_On_costAlong_5 : decode cc_On_costAlong 5 = .ok (.getfield 37, 3) := by decide +kernel
theorem dd_On_costAlong_8 : decode cc_On_costAlong 8 = .ok (.iload_n 2, 1) := by decide +kernel
theorem dd_On_costAlong_9 : decode cc_On_costAlong 9 = .ok (.iaload, 1) := by decide +kernel
theorem dd_On_costAlong_10 : decode cc_On_costAlong 10 = .ok (.invokestatic 45, 3) := by decide +kernel
theorem dd_On_costAlong_13 : decode cc_On_costAlong 13 = .ok (.laload, 1) := by decide +kernel
theorem dd_On_costAlong_14 : decode cc_On_costAlong 14 = .ok (.aload_n 1, 1) := by decide +kernel
theorem dd_On_costAlong_15 : decode cc_On_costAlong 15 = .ok (.getfield 48, 3) := by decide +kernel
theorem dd_On_costAlong_18 : decode cc_On_costAlong 18 = .ok (.iload_n 2, 1) := by decide +kernel
theorem dd_On_costAlong_19 : decode cc_On_costAlong 19 = .ok (.laload, 1) := by decide +kernel
theorem dd_On_costAlong_20 : decode cc_On_costAlong 20 = .ok (.ldc2_w 28, 3) := by decide +kernel
theorem dd_On_costAlong_23 : decode cc_On_costAlong 23 = .ok (.lmul, 1) := by decide +kernel
theorem dd_On_costAlong_24 : decode cc_On_costAlong 24 = .ok (.ladd, 1) := by decide +kernel
theorem dd_On_costAlong_25 : decode cc_On_costAlong 25 = .ok (.lconst 1, 1) := by decide +kernel
theorem dd_On_costAlong_26 : decode cc_On_costAlong 26 = .ok (.ladd, 1) := by decide +kernel
theorem dd_On_costAlong_27 : decode cc_On_costAlong 27 = .ok (.lreturn, 1) := by decide +kernel
theorem dd_On_isThere_0 : decode cc_On_isThere 0 = .ok (.aload_n 0, 1) := by decide +kernel
theorem dd_On_isThere_1 : decode cc_On_isThere 1 = .ok (.getfield 9, 3) := by decide +kernel
theorem dd_On_isThere_4 : decode cc_On_isThere 4 = .ok (.iload_n 1, 1) := by decide +kernel
theorem dd_On_isThere_5 : decode cc_On_isThere 5 = .ok (.laload, 1) := by decide +kernel
theorem dd_On_isThere_6 : decode cc_On_isThere 6 = .ok (.ldc2_w 26, 3) := by decide +kernel
theorem dd_On_isThere_9 : decode cc_On_isThere 9 = .ok (.lcmp, 1) := by decide +kernel
theorem dd_On_isThere_10 : decode cc_On_isThere 10 = .ok (.ifCond .ge 7, 3) := by decide +kernel
theorem dd_On_isThere_13 : decode cc_On_isThere 13 = .ok (.iconst 1, 1) := by decide +kernel
theorem dd_On_isThere_14 : decode cc_On_isThere 14 = .ok (.goto 4, 3) := by decide +kernel
theorem dd_On_isThere_17 : decode cc_On_isThere 17 = .ok (.iconst 0, 1) := by decide +kernel
theorem dd_On_isThere_18 : decode cc_On_isThere 18 = .ok (.ireturn, 1) := by decide +kernel
theorem dd_On_weightOf_0 : decode cc_On_weightOf 0 = .ok (.aload_n 0, 1) := by decide +kernel
theorem dd_On_weightOf_1 : decode cc_On_weightOf 1 = .ok (.getfield 9, 3) := by decide +kernel
theorem dd_On_weightOf_4 : decode cc_On_weightOf 4 = .ok (.iload_n 1, 1) := by decide +kernel
theorem dd_On_weightOf_5 : decode cc_On_weightOf 5 = .ok (.laload, 1) := by decide +kernel
theorem dd_On_weightOf_6 : decode cc_On_weightOf 6 = .ok (.ldc2_w 28, 3) := by decide +kernel
theorem dd_On_weightOf_9 : decode cc_On_weightOf 9 = .ok (.ldiv, 1) := by decide +kernel
theorem dd_On_weightOf_10 : decode cc_On_weightOf 10 = .ok (.lreturn, 1) := by decide +kernel
theorem dd_On_arcsOf_0 : decode cc_On_arcsOf 0 = .ok (.aload_n 0, 1) := by decide +kernel
theorem dd_On_arcsOf_1 : decode cc_On_arcsOf 1 = .ok (.getfield 9, 3) := by decide +kernel
theorem dd_On_arcsOf_4 : decode cc_On_arcsOf 4 = .ok (.iload_n 1, 1) := by decide +kernel
theorem dd_On_arcsOf_5 : decode cc_On_arcsOf 5 = .ok (.laload, 1) := by decide +kernel
theorem dd_On_arcsOf_6 : decode cc_On_arcsOf 6 = .ok (.ldc2_w 28, 3) := by decide +kernel
theorem dd_On_arcsOf_9 : decode cc_On_arcsOf 9 = .ok (.lrem, 1) := by decide +kernel
theorem dd_On_arcsOf_10 : decode cc_On_arcsOf 10 = .ok (.l2i, 1) := by decide +kernel
theorem dd_On_arcsOf_11 : decode cc_On_arcsOf 11 = .ok (.ireturn, 1) := by decide +kernel
theorem dd_On_bestArc_0 : decode cc_On_bestArc 0 = .ok (.aload_n 1, 1) := by decide +kernel
theorem dd_On_bestArc_1 : decode cc_On_bestArc 1 = .ok (.iload_n 2, 1) := by decide +kernel
theorem dd_On_bestArc_2 : decode cc_On_bestArc 2 = .ok (.iconst 0, 1) := by decide +kernel
theorem dd_On_bestArc_3 : decode cc_On_bestArc 3 = .ok (.iconst 0, 1) := by decide +kernel
theorem dd_On_bestArc_4 : decode cc_On_bestArc 4 = .ok (.invokestatic 51, 3) := by decide +kernel
theorem dd_On_bestArc_7 : decode cc_On_bestArc 7 = .ok (.invokevirtual 55, 3) := by decide +kernel
theorem dd_On_bestArc_10 : decode cc_On_bestArc 10 = .ok (.istore_n 3, 1) := by decide +kernel
theorem dd_On_bestArc_11 : decode cc_On_bestArc 11 = .ok (.iload_n 3, 1) := by decide +kernel
theorem dd_On_bestArc_12 : decode cc_On_bestArc 12 = .ok (.aload_n 1, 1) := by decide +kernel
theorem dd_On_bestArc_13 : decode cc_On_bestArc 13 = .ok (.getfield 30, 3) := by decide +kernel
theorem dd_On_bestArc_16 : decode cc_On_bestArc 16 = .ok (.if_icmp .ge 40, 3) := by decide +kernel
theorem dd_On_bestArc_19 : decode cc_On_bestArc 19 = .ok (.aload_n 1, 1) := by decide +kernel
theorem dd_On_bestArc_20 : decode cc_On_bestArc 20 = .ok (.getfield 37, 3) := by decide +kernel
theorem dd_On_bestArc_23 : decode cc_On_bestArc 23 = .ok (.iload_n 3, 1) := by decide +kernel
theorem dd_On_bestArc_24 : decode cc_On_bestArc 24 = .ok (.iaload, 1) := by decide +kernel
theorem dd_On_bestArc_25 : decode cc_On_bestArc 25 = .ok (.invokestatic 41, 3) := by decide +kernel
theorem dd_On_bestArc_28 : decode cc_On_bestArc 28 = .ok (.iload_n 2, 1) := by decide +kernel
theorem dd_On_bestArc_29 : decode cc_On_bestArc 29 = .ok (.if_icmp .ne 21, 3) := by decide +kernel
theorem dd_On_bestArc_32 : decode cc_On_bestArc 32 = .ok (.aload_n 0, 1) := by decide +kernel
theorem dd_On_bestArc_33 : decode cc_On_bestArc 33 = .ok (.aload_n 1, 1) := by decide +kernel
theorem dd_On_bestArc_34 : decode cc_On_bestArc 34 = .ok (.iload_n 3, 1) := by decide +kernel
theorem dd_On_bestArc_35 : decode cc_On_bestArc 35 = .ok (.invokevirtual 33, 3) := by decide +kernel
theorem dd_On_bestArc_38 : decode cc_On_bestArc 38 = .ok (.aload_n 0, 1) := by decide +kernel
theorem dd_On_bestArc_39 : decode cc_On_bestArc 39 = .ok (.getfield 9, 3) := by decide +kernel
theorem dd_On_bestArc_42 : decode cc_On_bestArc 42 = .ok (.iload_n 2, 1) := by decide +kernel
theorem dd_On_bestArc_43 : decode cc_On_bestArc 43 = .ok (.laload, 1) := by decide +kernel
theorem dd_On_bestArc_44 : decode cc_On_bestArc 44 = .ok (.lcmp, 1) := by decide +kernel
theorem dd_On_bestArc_45 : decode cc_On_bestArc 45 = .ok (.ifCond .ne 5, 3) := by decide +kernel
theorem dd_On_bestArc_48 : decode cc_On_bestArc 48 = .ok (.iload_n 3, 1) := by decide +kernel
theorem dd_On_bestArc_49 : decode cc_On_bestArc 49 = .ok (.ireturn, 1) := by decide +kernel
theorem dd_On_bestArc_50 : decode cc_On_bestArc 50 = .ok (.iinc 3 1, 3) := by decide +kernel
theorem dd_On_bestArc_53 : decode cc_On_bestArc 53 = .ok (.goto (-42), 3) := by decide +kernel
theorem dd_On_bestArc_56 : decode cc_On_bestArc 56 = .ok (.iconst (-1), 1) := by decide +kernel
theorem dd_On_bestArc_57 : decode cc_On_bestArc 57 = .ok (.ireturn, 1) := by decide +kernel
/-! ONWARD: 32 times the weight, and the arcs -/
def on_x (x : Nat × Nat) : ls_A := (x.1 % 16, x.1 / 1024, x.2 * 32 + 1)
def on_v (a : am_T) (k : Nat) : ls_V := fun s => if s < k then (am_en a s).map (fun e => e * 32) else none
def on_in (f : Nat → Int64) (n : Nat) (v : ls_V) : Prop := ∀ s, s < n → f s = am_f (v s)
def on_fix (a : am_T) (v : ls_V) : Prop := ls_fix ((am_ar a).map on_x) (on_v a (am_n a)) v
theorem on_ad (o : Option Nat) (w : Nat) : am_f o + lN w * 32 + lN 1 = am_f o + lN (w * 32 + 1) := by
  rw [show (32 : Int64) = lN 32 from rfl, lN_mul, Int64.add_assoc, lN_add]
theorem on_E {a : am_T} (h : ∀ x ∈ am_ar a, x.1 / 1024 < am_n a ∧ x.1 % 16 < am_n a) : ∀ e ∈ (am_ar a).map on_x, e.1 < am_n a ∧ e.2.1 < am_n a := by
  intro e he
  obtain ⟨x, hx, rfl⟩ := List.mem_map.mp he
  exact (h x hx).symm
set_option maxRecDepth 100000 in
set_option maxHeartbeats 4000000 in
theorem ct_On_costAlong (l : Launch) (D : va_G) (dA : Nat → ClassId) (ad : Nat → Nat) (mm : Nat → gm_V) (r : Nat → va_E) {ia : Nat} {a : am_T} (hia : ia < 5) (hMa : gm_is (mm ia) a) (hba : am_b 1000000001 a) (hnd : ∀ x ∈ am_ar a, x.1 / 1024 < am_n a ∧ x.1 % 16 < am_n a) {f : Nat → Int64} (hc29 : r 29 = .inr (5, [.ref (ad 30)])) (hc30 : r 30 = .inl (dA 1, 16, .inr (.inl f))) {nv : ls_V} (hf : on_in f (am_n a) nv) {j : Nat} {x : Nat × Nat} (hx : (am_ar a)[j]? = some x) : gx_Ct l D dA yy_On_costAlong cc_On_costAlong 3 (some .long) 1 0 0 [.ref (ad 29), .ref (ad (2 + 4 * ia)), .int (nI j)] (gx_w ad (gm_h dA ad mm r)) (fun v w => v = some (.long (am_f (nv (x.1 % 16)) + lN (x.2 * 32 + 1))) ∧ w = (gx_w ad (gm_h dA ad mm r))) := by
  refine gx_of (by decide) (Nat.le_of_ble_eq_true rfl) (fun K C _ _ => ?_)
  have hn16 := hba.1
  have hjl := (List.getElem?_eq_some_iff.mp hx).1
  have hl64 := hba.2.1
  obtain ⟨hxb, hxw⟩ := hba.2.2.1 x (List.mem_of_getElem? hx)
  have hxn := hnd x (List.mem_of_getElem? hx)
  refine gx_aload_n C 0 dd_On_costAlong_0 (kk := ?_)
  refine gx_get C fd_On_9 (gm_r hc29) dd_On_costAlong_1 (kk := ?_)
  refine gx_aload_n C 1 dd_On_costAlong_4 (kk := ?_)
  refine gm_get C fd_On_37 (by assumption) dd_On_costAlong_5 (kk := ?_)
  refine gx_iload_n C 2 dd_On_costAlong_8 (kk := ?_)
  refine gm_ln_k C hia dd_On_costAlong_9 (by omega) (kk := ?_)
  refine gx_topi _ (hMa.2.2.2.2 _ _ hx).1 ?_
  refine gx_callS C (ct_WM_toOf (gx_l K) D dA _ x.1 (by omega)) me_WM_toOf ml_On_45 ms_WM_toOf dd_On_costAlong_10 (kk := fun v w hq => ?_)
  obtain ⟨rfl, rfl⟩ := hq
  refine gz_laload C hc30 dd_On_costAlong_13 (by omega) (kk := ?_)
  refine gx_topl _ (hf _ (by omega)) ?_
  refine gx_aload_n C 1 dd_On_costAlong_14 (kk := ?_)
  refine gm_get C fd_On_48 (by assumption) dd_On_costAlong_15 (kk := ?_)
  refine gx_iload_n C 2 dd_On_costAlong_18 (kk := ?_)
  refine gm_ln_g C hia dd_On_costAlong_19 (by omega) (kk := ?_)
  refine gx_topl _ (hMa.2.2.2.2 _ _ hx).2 ?_
  refine gx_ldc2 C dd_On_costAlong_20 kc_On_28 (kk := ?_)
  refine gx_lmul C dd_On_costAlong_23 (kk := ?_)
  refine gx_ladd C dd_On_costAlong_24 (kk := ?_)
  refine gx_lconst (v := lN 1) C dd_On_costAlong_25 (kk := ?_)
  refine gx_ladd C dd_On_costAlong_26 (kk := ?_)
  refine gx_lret C dd_On_costAlong_27 ?_
  rw [on_ad]
  exact ⟨rfl, rfl⟩
set_option maxRecDepth 100000 in
set_option maxHeartbeats 4000000 in
theorem ct_On_isThere (l : Launch) (D : va_G) (dA : Nat → ClassId) (ad : Nat → Nat) (mm : Nat → gm_V) (r : Nat → va_E) {f : Nat → Int64} (hc29 : r 29 = .inr (5, [.ref (ad 30)])) (hc30 : r 30 = .inl (dA 1, 16, .inr (.inl f))) {q : Nat} {o : Option Nat} (hq16 : q < 16) (hf : f q = am_f o) (ho : ∀ c, o = some c → c < 2 ^ 60) : gx_Ct l D dA yy_On_isThere cc_On_isThere 2 (some .boolean) 0 0 0 [.ref (ad 29), .int (nI q)] (gx_w ad (gm_h dA ad mm r)) (fun v w => v = some (.int (nI o.isSome.toNat)) ∧ w = (gx_w ad (gm_h dA ad mm r))) := by
  refine gx_of (by decide) (Nat.le_of_ble_eq_true rfl) (fun K C _ _ => ?_)
  refine gx_aload_n C 0 dd_On_isThere_0 (kk := ?_)
  refine gx_get C fd_On_9 (gm_r hc29) dd_On_isThere_1 (kk := ?_)
  refine gx_iload_n C 1 dd_On_isThere_4 (kk := ?_)
  refine gz_laload C hc30 dd_On_isThere_5 hq16 (kk := ?_)
  refine gx_topl _ hf ?_
  refine gx_ldc2 C dd_On_isThere_6 kc_On_26 (kk := ?_)
  refine gx_lcmp C dd_On_isThere_9 (kk := ?_)
  refine gx_if_ge C 17 dd_On_isThere_10 (fun h10 => ?_) (fun h10 => ?_)
  · refine gx_iconst (v := nI 0) C dd_On_isThere_17 (kk := ?_)
    refine gx_zret C dd_On_isThere_18 (by first | rfl | exact fb_nar) ?_
    rw [lc_ge] at h10
    refine ⟨?_, rfl⟩
    cases o with
    | none => rfl
    | some c => exact absurd ((pk_lLE (a := 1152921504606846976) (by decide) (by have := ho c rfl; omega)).mp h10) (by have := ho c rfl; omega)
  · refine gx_iconst (v := nI 1) C dd_On_isThere_13 (kk := ?_)
    refine gx_goto C 18 dd_On_isThere_14 (kk := ?_)
    refine gx_zret C dd_On_isThere_18 (by first | rfl | exact fb_nar) ?_
    rw [lc_ge] at h10
    refine ⟨?_, rfl⟩
    cases o with
    | none => exact absurd (Int64.le_refl _) h10
    | some c => rfl
set_option maxRecDepth 100000 in
set_option maxHeartbeats 4000000 in
theorem ct_On_weightOf (l : Launch) (D : va_G) (dA : Nat → ClassId) (ad : Nat → Nat) (mm : Nat → gm_V) (r : Nat → va_E) {f : Nat → Int64} (hc29 : r 29 = .inr (5, [.ref (ad 30)])) (hc30 : r 30 = .inl (dA 1, 16, .inr (.inl f))) {q c : Nat} (hq16 : q < 16) (hf : f q = lN c) (ho : c < 2 ^ 60) : gx_Ct l D dA yy_On_weightOf cc_On_weightOf 2 (some .long) 0 0 0 [.ref (ad 29), .int (nI q)] (gx_w ad (gm_h dA ad mm r)) (fun v w => v = some (.long (lN (c / 32))) ∧ w = (gx_w ad (gm_h dA ad mm r))) := by
  refine gx_of (by decide) (Nat.le_of_ble_eq_true rfl) (fun K C _ _ => ?_)
  refine gx_aload_n C 0 dd_On_weightOf_0 (kk := ?_)
  refine gx_get C fd_On_9 (gm_r hc29) dd_On_weightOf_1 (kk := ?_)
  refine gx_iload_n C 1 dd_On_weightOf_4 (kk := ?_)
  refine gz_laload C hc30 dd_On_weightOf_5 hq16 (kk := ?_)
  refine gx_topl _ hf ?_
  refine gx_ldc2 C dd_On_weightOf_6 kc_On_28 (kk := ?_)
  refine gx_ldiv C dd_On_weightOf_9 (kk := ?_)
  refine gx_lret C dd_On_weightOf_10 ?_
  rw [show (32 : Int64) = lN 32 from rfl, pk_lDiv (by omega) (by decide) (by decide)]
  exact ⟨rfl, rfl⟩
set_option maxRecDepth 100000 in
set_option maxHeartbeats 4000000 in
theorem ct_On_arcsOf (l : Launch) (D : va_G) (dA : Nat → ClassId) (ad : Nat → Nat) (mm : Nat → gm_V) (r : Nat → va_E) {f : Nat → Int64} (hc29 : r 29 = .inr (5, [.ref (ad 30)])) (hc30 : r 30 = .inl (dA 1, 16, .inr (.inl f))) {q c : Nat} (hq16 : q < 16) (hf : f q = lN c) (ho : c < 2 ^ 60) : gx_Ct l D dA yy_On_arcsOf cc_On_arcsOf 2 (some .int) 0 0 0 [.ref (ad 29), .int (nI q)] (gx_w ad (gm_h dA ad mm r)) (fun v w => v = some (.int (nI (c % 32))) ∧ w = (gx_w ad (gm_h dA ad mm r))) := by
  refine gx_of (by decide) (Nat.le_of_ble_eq_true rfl) (fun K C _ _ => ?_)
  refine gx_aload_n C 0 dd_On_arcsOf_0 (kk := ?_)
  refine gx_get C fd_On_9 (gm_r hc29) dd_On_arcsOf_1 (kk := ?_)
  refine gx_iload_n C 1 dd_On_arcsOf_4 (kk := ?_)
  refine gz_laload C hc30 dd_On_arcsOf_5 hq16 (kk := ?_)
  refine gx_topl _ hf ?_
  refine gx_ldc2 C dd_On_arcsOf_6 kc_On_28 (kk := ?_)
  refine gx_lrem C dd_On_arcsOf_9 (kk := ?_)
  refine gx_l2i C dd_On_arcsOf_10 (kk := ?_)
  refine gx_iret C dd_On_arcsOf_11 ?_
  rw [show (32 : Int64) = lN 32 from rfl, pk_lRem (by omega) (by decide) (by decide), lN_i]
  exact ⟨rfl, rfl⟩
def on_p (v : ls_V) (q : Nat) (x : Nat × Nat) : Bool := decide (x.1 / 1024 = q) && decide (ls_ad (v (x.1 % 16)) (x.2 * 32 + 1) = v q)
theorem on_fi {v : ls_V} {q s : Nat} {l : List (Nat × Nat)} {x : Nat × Nat} (h1 : l[s]? = some x) (hx : on_p v q x = true) (h2 : ∀ k u, k < s → l[k]? = some u → on_p v q u = false) : l.findIdx? (on_p v q) = some s := by
  obtain ⟨hs, he⟩ := List.getElem?_eq_some_iff.mp h1
  rw [List.findIdx?_eq_some_iff_getElem]
  refine ⟨hs, by rw [he]; exact hx, fun j hj => ?_⟩
  have := h2 j l[j] hj (List.getElem?_eq_getElem (by omega))
  simp [this]
theorem on_fn {v : ls_V} {q : Nat} {l : List (Nat × Nat)} (h2 : ∀ k u, k < l.length → l[k]? = some u → on_p v q u = false) : l.findIdx? (on_p v q) = none := by
  rw [List.findIdx?_eq_none_iff]
  intro u hu
  obtain ⟨k, hk⟩ := List.getElem?_of_mem hu
  exact h2 k u (List.getElem?_eq_some_iff.mp hk).1 hk
theorem on_eq {o o2 : Option Nat} {w : Nat} (h1 : ∀ x, o = some x → x + w < 1152921504606846976) (h2 : ∃ x, o2 = some x ∧ x < 1152921504606846976) (hw : w < 1152921504606846976) : (am_f o + lN w = am_f o2) ↔ ls_ad o w = o2 := by
  obtain ⟨y, rfl, hy⟩ := h2
  rw [am_f_n, am_f_n, lN_add]
  cases o with
  | none =>
    show lN (1152921504606846976 + w) = lN y ↔ none = some y
    rw [pk_lEQ (by omega) (by omega)]
    exact ⟨fun h => by omega, fun h => by cases h⟩
  | some x =>
    have := h1 x rfl
    show lN (x + w) = lN y ↔ some (x + w) = some y
    rw [pk_lEQ (by omega) (by omega)]
    exact ⟨fun h => by rw [h], fun h => by cases h; rfl⟩
def on_r (o : Option Nat) : Int32 := match o with
  | none => -1
  | some k => nI k
set_option maxRecDepth 100000 in
set_option maxHeartbeats 4000000 in
theorem ct_On_bestArc (l : Launch) (D : va_G) (dA : Nat → ClassId) (ad : Nat → Nat) (mm : Nat → gm_V) (r : Nat → va_E) {ia : Nat} {a : am_T} (hia : ia < 5) (hMa : gm_is (mm ia) a) (hba : am_b 1000000001 a) (hnd : ∀ x ∈ am_ar a, x.1 / 1024 < am_n a ∧ x.1 % 16 < am_n a) (hsa : am_so (am_ar a)) {f : Nat → Int64} (hc29 : r 29 = .inr (5, [.ref (ad 30)])) (hc30 : r 30 = .inl (dA 1, 16, .inr (.inl f))) {nv : ls_V} (hf : on_in f (am_n a) nv) (hvb : sp_b 1152921400000000000 nv) {q : Nat} (hq : q < am_n a) (hvq : ∃ x, nv q = some x ∧ x < 1152921504606846976) : gx_Ct l D dA yy_On_bestArc cc_On_bestArc 4 (some .int) 2 0 0 [.ref (ad 29), .ref (ad (2 + 4 * ia)), .int (nI q)] (gx_w ad (gm_h dA ad mm r)) (fun v w => v = some (.int (on_r ((am_ar a).findIdx? (on_p nv q)))) ∧ w = (gx_w ad (gm_h dA ad mm r))) := by
  refine gx_of (by decide) (Nat.le_of_ble_eq_true rfl) (fun K C _ _ => ?_)
  have hn16 := hba.1
  have hl64 := hba.2.1
  have loop : ∀ m j, j + m = (am_ar a).length → (∀ k u, k < j → (am_ar a)[k]? = some u → on_p nv q u = false) → gx_G K D 4 0 0 11 [(3, .int (nI j)), (0, .ref (ad 29)), (1, .ref (ad (2 + 4 * ia))), (2, .int (nI q))] [] (gx_w ad (gm_h dA ad mm r)) (gx_Z K D dA 0 0 (fun v w => v = some (.int (on_r ((am_ar a).findIdx? (on_p nv q)))) ∧ w = (gx_w ad (gm_h dA ad mm r)))) := by
    intro m
    induction m with
    | zero =>
      intro j hj hno
      refine gx_iload_n C 0 dd_On_bestArc_11 (kk := ?_)
      refine gx_aload_n C 2 dd_On_bestArc_12 (kk := ?_)
      refine gm_get C fd_On_30 hia dd_On_bestArc_13 (kk := ?_)
      refine gx_topi _ hMa.2.2.2.1 ?_
      refine gx_icmp_ge C 56 dd_On_bestArc_16 (fun h16 => ?_) (fun h16 => absurd (nI_le (a := (am_ar a).length) (b := j) (by omega) (by omega)) h16)
      refine gx_iconst (v := -1) C dd_On_bestArc_56 (kk := ?_)
      refine gx_iret C dd_On_bestArc_57 ?_
      rw [on_fn (fun k u hk hu => hno k u (by omega) hu)]
      exact ⟨rfl, rfl⟩
    | succ m ih =>
      intro j hj hno
      obtain ⟨x, hx⟩ : ∃ x, (am_ar a)[j]? = some x := ⟨_, List.getElem?_eq_getElem (by omega)⟩
      obtain ⟨hx1, hx2⟩ := hMa.2.2.2.2 _ _ hx
      obtain ⟨hxb, hxw⟩ := hba.2.2.1 x (List.mem_of_getElem? hx)
      have hxn := hnd x (List.mem_of_getElem? hx)
      have EQ : (am_f (nv (x.1 % 16)) + lN (x.2 * 32 + 1) = am_f (nv q)) ↔ ls_ad (nv (x.1 % 16)) (x.2 * 32 + 1) = nv q := on_eq (fun y hy => by have := hvb _ _ hy; omega) hvq (by omega)
      refine gx_iload_n C 0 dd_On_bestArc_11 (kk := ?_)
      refine gx_aload_n C 2 dd_On_bestArc_12 (kk := ?_)
      refine gm_get C fd_On_30 hia dd_On_bestArc_13 (kk := ?_)
      refine gx_topi _ hMa.2.2.2.1 ?_
      refine gx_icmp_ge C 56 dd_On_bestArc_16 (fun h16 => absurd h16 (nI_ge (by omega) (by omega))) (fun h16 => ?_)
      refine gx_aload_n C 2 dd_On_bestArc_19 (kk := ?_)
      refine gm_get C fd_On_37 (by assumption) dd_On_bestArc_20 (kk := ?_)
      refine gx_iload_n C 0 dd_On_bestArc_23 (kk := ?_)
      refine gm_ln_k C hia dd_On_bestArc_24 (by omega) (kk := ?_)
      refine gx_topi _ hx1 ?_
      refine gx_callS C (ct_WM_fromOf (gx_l K) D dA _ x.1 (by omega)) me_WM_fromOf ml_On_41 ms_WM_fromOf dd_On_bestArc_25 (kk := fun v w hq => ?_)
      obtain ⟨rfl, rfl⟩ := hq
      refine gx_iload_n C 3 dd_On_bestArc_28 (kk := ?_)
      refine gx_icmp_ne C 50 dd_On_bestArc_29 (fun h29 => ?_) (fun h29 => ?_)
      · refine gx_iinc C 0 (nI (j + 1)) _ dd_On_bestArc_50 (nI_1 j) (kk := ?_)
        refine gx_goto C 11 dd_On_bestArc_53 (kk := ?_)
        exact ih (j + 1) (by omega) (fun k u hk hu => by
          by_cases hkj : k = j
          · subst hkj
            rw [hx] at hu
            cases hu
            rw [nI_eq (by omega) (by omega)] at h29
            simp [on_p, h29]
          · exact hno k u (by omega) hu)
      · refine gx_aload_n C 1 dd_On_bestArc_32 (kk := ?_)
        refine gx_aload_n C 2 dd_On_bestArc_33 (kk := ?_)
        refine gx_iload_n C 0 dd_On_bestArc_34 (kk := ?_)
        refine gx_callV C (ct_On_costAlong (gx_l K) D dA ad mm r hia hMa hba hnd hc29 hc30 hf hx) me_On_costAlong ml_On_33 mn_On_costAlong _ (gx_w_at (by decide) (gm_r hc29)) rfl dd_On_bestArc_35 (kk := fun v w hq => ?_)
        obtain ⟨rfl, rfl⟩ := hq
        refine gx_aload_n C 1 dd_On_bestArc_38 (kk := ?_)
        refine gx_get C fd_On_9 (gm_r hc29) dd_On_bestArc_39 (kk := ?_)
        refine gx_iload_n C 3 dd_On_bestArc_42 (kk := ?_)
        refine gz_laload C hc30 dd_On_bestArc_43 (by omega) (kk := ?_)
        refine gx_topl _ (hf _ (by omega)) ?_
        refine gx_lcmp C dd_On_bestArc_44 (kk := ?_)
        refine gx_if_ne C 50 dd_On_bestArc_45 (fun h45 => ?_) (fun h45 => ?_)
        · refine gx_iinc C 0 (nI (j + 1)) _ dd_On_bestArc_50 (nI_1 j) (kk := ?_)
          refine gx_goto C 11 dd_On_bestArc_53 (kk := ?_)
          exact ih (j + 1) (by omega) (fun k u hk hu => by
            by_cases hkj : k = j
            · subst hkj
              rw [hx] at hu
              cases hu
              rw [lc_eq, EQ] at h45
              simp [on_p, h45]
            · exact hno k u (by omega) hu)
        · refine gx_iload_n C 0 dd_On_bestArc_48 (kk := ?_)
          refine gx_iret C dd_On_bestArc_49 ?_
          rw [nI_eq (by omega) (by omega)] at h29
          rw [lc_eq, EQ] at h45
          rw [on_fi hx (by simp [on_p, h29, h45]) hno]
          exact ⟨rfl, rfl⟩
  refine gx_aload_n C 1 dd_On_bestArc_0 (kk := ?_)
  refine gx_iload_n C 2 dd_On_bestArc_1 (kk := ?_)
  refine gx_iconst (v := nI 0) C dd_On_bestArc_2 (kk := ?_)
  refine gx_iconst (v := nI 0) C dd_On_bestArc_3 (kk := ?_)
  refine gx_callS C (ct_WM_keyOf (gx_l K) D dA _ q 0 0 (by omega) (by omega) (by omega)) me_WM_keyOf ml_On_51 ms_WM_keyOf dd_On_bestArc_4 (kk := fun v w hq => ?_)
  obtain ⟨rfl, rfl⟩ := hq
  refine gx_callV C (ct_Ma_placeOf (gx_l K) D dA ad mm r (key := q * 1024 + 0 * 16 + 0) hia hMa (by omega) hba.2.1 (fun x hx => (hba.2.2.1 x hx).1) hsa) me_Ma_placeOf ml_On_55 mn_Ma_placeOf _ (gx_w_at (by omega) (gm_at (j := 0) hia (by decide))) rfl dd_On_bestArc_7 (kk := fun v w hq => ?_)
  obtain ⟨rfl, rfl⟩ := hq
  refine gx_istore_n C _ dd_On_bestArc_10 (kk := ?_)
  exact loop ((am_ar a).length - am_pl (q * 1024 + 0 * 16 + 0) (am_ar a)) _ (by have := am_pl_le (q * 1024 + 0 * 16 + 0) (am_ar a); omega) (fun k u hk hu => by
    have := am_pl_lo _ _ k u hk hu
    simp only [on_p, Bool.and_eq_false_iff, decide_eq_false_iff_not]
    exact Or.inl (by omega))
set_option maxRecDepth 100000 in
set_option maxHeartbeats 4000000 in
theorem ct_On_look (l : Launch) (D : va_G) (dA : Nat → ClassId) (ad : Nat → Nat) (mm : Nat → gm_V) (r : Nat → va_E) {ia : Nat} {a : am_T} (hia : ia < 5) (hMa : gm_is (mm ia) a) (hba : am_b 1000000001 a) (hnd : ∀ x ∈ am_ar a, x.1 / 1024 < am_n a ∧ x.1 % 16 < am_n a) {f : Nat → Int64} (hc29 : r 29 = .inr (5, [.ref (ad 30)])) (hc30 : r 30 = .inl (dA 1, 16, .inr (.inl f))) : gx_Ct l D dA yy_On_look cc_On_look 7 none 2 0 0 [.ref (ad 29), .ref (ad (2 + 4 * ia))] (gx_w ad (gm_h dA ad mm r)) (fun v w => v = none ∧ ∃ f2 v2, w = (gx_w ad (gm_h dA ad mm (va_up r 30 (.inl (dA 1, 16, .inr (.inl f2)))))) ∧ on_in f2 (am_n a) v2 ∧ on_fix a v2 ∧ sp_b 100000000000000 v2) := by
  refine gx_of (by decide) (Nat.le_of_ble_eq_true rfl) (fun K C _ _ => ?_)
  have hn16 := hba.1
  have hl64 := hba.2.1
  have loop : ∀ m k c v1 f0, k + m = am_n a → v1 = ls_it ((am_ar a).map on_x) k (on_v a (am_n a)) → (c = 0 ∨ c = 1) → (c = 0 → ls_rd ((am_ar a).map on_x) v1 = v1) → on_in f0 (am_n a) v1 → sp_b (32000000065 + (k * 64 + 0) * 32000000065) v1 → gx_G K D 7 0 0 55 [(3, .int (nI k)), (2, .int (nI c)), (0, .ref (ad 29)), (1, .ref (ad (2 + 4 * ia)))] [] (gx_w ad (gm_h dA ad mm (va_up r 30 (.inl (dA 1, 16, .inr (.inl f0)))))) (gx_Z K D dA 0 0 (fun v w => v = none ∧ ∃ f2 v2, w = (gx_w ad (gm_h dA ad mm (va_up r 30 (.inl (dA 1, 16, .inr (.inl f2)))))) ∧ on_in f2 (am_n a) v2 ∧ on_fix a v2 ∧ sp_b 100000000000000 v2)) := by
    intro m
    induction m with
    | zero =>
      intro k c v1 f0 hk hv hc hcl hf hB0
      refine gx_iload_n C 0 dd_On_look_55 (kk := ?_)
      refine gx_aload_n C 3 dd_On_look_56 (kk := ?_)
      refine gm_get C fd_On_15 hia dd_On_look_57 (kk := ?_)
      refine gx_topi _ hMa.1 ?_
      refine gx_icmp_ge C 142 dd_On_look_60 (fun h60 => ?_) (fun h60 => absurd (nI_le (a := am_n a) (b := k) (by omega) (by omega)) h60)
      refine gx_vret C dd_On_look_142 ?_
      subst hv
      exact ⟨rfl, f0, _, rfl, hf, ls_it_fix (on_E hnd) (by omega), sp_b_mono hB0 (by omega)⟩
    | succ m ih =>
      intro k c v1 f0 hk hv hc hcl hf hB0
      obtain ⟨vr, hvr⟩ : ∃ x, x = v1 := ⟨_, rfl⟩
      have inner : ∀ m j c v1 f1, j + m = (am_ar a).length → (c = 0 ∨ c = 1) → (c = 0 → v1 = vr) → v1 = ls_rd (((am_ar a).take j).map on_x) vr → on_in f1 (am_n a) v1 → sp_b (32000000065 + (k * 64 + j) * 32000000065) v1 → gx_G K D 7 0 0 72 [(4, .int (nI j)), (2, .int (nI c)), (3, .int (nI k)), (0, .ref (ad 29)), (1, .ref (ad (2 + 4 * ia)))] [] (gx_w ad (gm_h dA ad mm (va_up r 30 (.inl (dA 1, 16, .inr (.inl f1)))))) (gx_Z K D dA 0 0 (fun v w => v = none ∧ ∃ f2 v2, w = (gx_w ad (gm_h dA ad mm (va_up r 30 (.inl (dA 1, 16, .inr (.inl f2)))))) ∧ on_in f2 (am_n a) v2 ∧ on_fix a v2 ∧ sp_b 100000000000000 v2)) := by
        intro m
        induction m with
        | zero =>
          intro j c v1 f1 hj hc1 hc0 hv1 hf1 hB1
          refine gx_iload C 0 dd_On_look_72 (kk := ?_)
          refine gx_aload_n C 4 dd_On_look_74 (kk := ?_)
          refine gm_get C fd_On_30 hia dd_On_look_75 (kk := ?_)
          refine gx_topi _ hMa.2.2.2.1 ?_
          refine gx_icmp_ge C 136 dd_On_look_78 (fun h78 => ?_) (fun h78 => absurd (nI_le (a := (am_ar a).length) (b := j) (by omega) (by omega)) h78)
          refine gx_iinc C 2 (nI (k + 1)) _ dd_On_look_136 (nI_1 k) (kk := ?_)
          refine gx_goto C 55 dd_On_look_139 (kk := ?_)
          refine gx_loc [0, 2, 3, 4] ?_
          rw [show j = (am_ar a).length by omega, List.take_length] at hv1
          exact ih (k + 1) c v1 f1 (by omega) (by rw [hv1, hvr, hv]; rfl) hc1 (fun h => by rw [← hc0 h] at hv1; exact hv1.symm) hf1 (sp_b_mono hB1 (by omega))
        | succ m ihI =>
          intro j c v1 f1 hj hc1 hc0 hv1 hf1 hB1
          obtain ⟨x, hx⟩ : ∃ x, (am_ar a)[j]? = some x := ⟨_, List.getElem?_eq_getElem (by omega)⟩
          obtain ⟨hx1, hx2⟩ := hMa.2.2.2.2 _ _ hx
          obtain ⟨hxb, hxw⟩ := hba.2.2.1 x (List.mem_of_getElem? hx)
          have hn1 := hnd x (List.mem_of_getElem? hx)
          have hst : (k * 64 + (j + 1)) * 32000000065 = (k * 64 + j) * 32000000065 + 32000000065 := by omega
          have LT : (am_f (v1 (x.1 % 16)) + lN (x.2 * 32 + 1) < am_f (v1 (x.1 / 1024))) ↔ ls_lt (ls_ad (v1 (x.1 % 16)) (x.2 * 32 + 1)) (v1 (x.1 / 1024)) = true := am_f_lt (fun y hy => by have := hB1 _ _ hy; omega) (fun y hy => by have := hB1 _ _ hy; omega) (by omega)
          refine gx_iload C 0 dd_On_look_72 (kk := ?_)
          refine gx_aload_n C 4 dd_On_look_74 (kk := ?_)
          refine gm_get C fd_On_30 hia dd_On_look_75 (kk := ?_)
          refine gx_topi _ hMa.2.2.2.1 ?_
          refine gx_icmp_ge C 136 dd_On_look_78 (fun h78 => absurd h78 (nI_ge (by omega) (by omega))) (fun h78 => ?_)
          refine gx_aload_n C 3 dd_On_look_81 (kk := ?_)
          refine gx_aload_n C 4 dd_On_look_82 (kk := ?_)
          refine gx_iload C 0 dd_On_look_83 (kk := ?_)
          refine gx_callV C (ct_On_costAlong (gx_l K) D dA ad mm (va_up r 30 (.inl (dA 1, 16, .inr (.inl f1)))) hia hMa hba hnd ((gm_un (by decide)).trans hc29) gm_us hf1 hx) me_On_costAlong ml_On_33 mn_On_costAlong _ (gx_w_at (by decide) (gm_r ((gm_un (by decide)).trans hc29))) rfl dd_On_look_85 (kk := fun v w hq => ?_)
          obtain ⟨rfl, rfl⟩ := hq
          refine gx_lstore C _ dd_On_look_88 (kk := ?_)
          refine gx_lload C 0 dd_On_look_90 (kk := ?_)
          refine gx_aload_n C 4 dd_On_look_92 (kk := ?_)
          refine gx_get C fd_On_9 (gm_r ((gm_un (by decide)).trans hc29)) dd_On_look_93 (kk := ?_)
          refine gx_aload_n C 5 dd_On_look_96 (kk := ?_)
          refine gm_get C fd_On_37 (by assumption) dd_On_look_97 (kk := ?_)
          refine gx_iload C 1 dd_On_look_100 (kk := ?_)
          refine gm_ln_k C hia dd_On_look_102 (by omega) (kk := ?_)
          refine gx_topi _ hx1 ?_
          refine gx_callS C (ct_WM_fromOf (gx_l K) D dA _ x.1 (by omega)) me_WM_fromOf ml_On_41 ms_WM_fromOf dd_On_look_103 (kk := fun v w hq => ?_)
          obtain ⟨rfl, rfl⟩ := hq
          refine gz_laload C gm_us dd_On_look_106 (by omega) (kk := ?_)
          refine gx_topl _ (hf1 _ (by omega)) ?_
          refine gx_lcmp C dd_On_look_107 (kk := ?_)
          refine gx_if_ge C 130 dd_On_look_108 (fun h108 => ?_) (fun h108 => ?_)
          · refine gx_iinc C 1 (nI (j + 1)) _ dd_On_look_130 (nI_1 j) (kk := ?_)
            refine gx_goto C 72 dd_On_look_133 (kk := ?_)
            refine gx_loc [0, 2, 3, 4, 5] ?_
            rw [lc_ge, ← Int64.not_lt, LT] at h108
            have hrx : ls_rx v1 (on_x x) = v1 := if_neg h108
            exact ihI (j + 1) c v1 f1 (by omega) hc1 hc0 (by rw [am_map_s on_x hx, ls_rd_s, ← hv1, hrx]) hf1 (sp_b_mono hB1 (by omega))
          · refine gx_aload_n C 4 dd_On_look_111 (kk := ?_)
            refine gx_get C fd_On_9 (gm_r ((gm_un (by decide)).trans hc29)) dd_On_look_112 (kk := ?_)
            refine gx_aload_n C 5 dd_On_look_115 (kk := ?_)
            refine gm_get C fd_On_37 (by assumption) dd_On_look_116 (kk := ?_)
            refine gx_iload C 1 dd_On_look_119 (kk := ?_)
            refine gm_ln_k C hia dd_On_look_121 (by omega) (kk := ?_)
            refine gx_topi _ hx1 ?_
            refine gx_callS C (ct_WM_fromOf (gx_l K) D dA _ x.1 (by omega)) me_WM_fromOf ml_On_41 ms_WM_fromOf dd_On_look_122 (kk := fun v w hq => ?_)
            obtain ⟨rfl, rfl⟩ := hq
            refine gx_lload C 0 dd_On_look_125 (kk := ?_)
            refine gz_lastore C gm_us dd_On_look_127 (by omega) (kk := fun r2 hr2 => ?_)
            refine gx_iconst (v := nI 1) C dd_On_look_128 (kk := ?_)
            refine gx_istore_n C _ dd_On_look_129 (kk := ?_)
            refine gx_iinc C 2 (nI (j + 1)) _ dd_On_look_130 (nI_1 j) (kk := ?_)
            refine gx_goto C 72 dd_On_look_133 (kk := ?_)
            refine gx_loc [0, 1, 3, 4, 5] ?_
            subst hr2
            rw [gm_uu]
            refine ihI (j + 1) 1 (ls_rx v1 (on_x x)) _ (by omega) (Or.inr rfl) (fun h => by cases h) (by rw [am_map_s on_x hx, ls_rd_s, ← hv1]) ?_ (sp_b_mono (sp_b_rx (w := 32000000065) hB1 (by show x.2 * 32 + 1 ≤ _; omega)) (by omega))
            intro s hs
            rw [lc_ge, ← Int64.not_lt, LT] at h108
            have h108 := Classical.not_not.mp h108
            have hrx : ls_rx v1 (on_x x) = va_up v1 (x.1 / 1024) (ls_ad (v1 (x.1 % 16)) (x.2 * 32 + 1)) := if_pos h108
            rw [hrx]
            obtain ⟨y, hy⟩ : ∃ y, ls_ad (v1 (x.1 % 16)) (x.2 * 32 + 1) = some y := by
              cases hz : ls_ad (v1 (x.1 % 16)) (x.2 * 32 + 1) with
              | none => rw [hz] at h108; cases h108
              | some y => exact ⟨y, rfl⟩
            by_cases hs1 : s = x.1 / 1024
            · subst hs1
              rw [pk_uLs, gm_us, am_f_ad hy]
            · rw [pk_uLn hs1, gm_un hs1]
              exact hf1 s hs
      refine gx_iload_n C 0 dd_On_look_55 (kk := ?_)
      refine gx_aload_n C 3 dd_On_look_56 (kk := ?_)
      refine gm_get C fd_On_15 hia dd_On_look_57 (kk := ?_)
      refine gx_topi _ hMa.1 ?_
      refine gx_icmp_ge C 142 dd_On_look_60 (fun h60 => absurd h60 (nI_ge (by omega) (by omega))) (fun h60 => ?_)
      refine gx_iload_n C 1 dd_On_look_63 (kk := ?_)
      refine gx_if_eq C 142 dd_On_look_64 (fun h64 => ?_) (fun h64 => ?_)
      · refine gx_vret C dd_On_look_142 ?_
        have hc2 : c = 0 := by
          rcases hc with h | h
          · exact h
          · subst h; exact absurd h64 (by decide)
        subst hv
        exact ⟨rfl, f0, _, rfl, hf, ls_it_stop (hcl hc2), sp_b_mono hB0 (by omega)⟩
      · refine gx_iconst (v := nI 0) C dd_On_look_67 (kk := ?_)
        refine gx_istore_n C _ dd_On_look_68 (kk := ?_)
        refine gx_iconst (v := nI 0) C dd_On_look_69 (kk := ?_)
        refine gx_istore C _ dd_On_look_70 (kk := ?_)
        exact inner (am_ar a).length 0 0 v1 f0 (by omega) (Or.inl rfl) (fun _ => hvr.symm) (by rw [hvr]; rfl) hf hB0
  have init : ∀ m q f0, q + m = am_n a → on_in f0 q (on_v a (am_n a)) → gx_G K D 7 0 0 2 [(2, .int (nI q)), (0, .ref (ad 29)), (1, .ref (ad (2 + 4 * ia)))] [] (gx_w ad (gm_h dA ad mm (va_up r 30 (.inl (dA 1, 16, .inr (.inl f0)))))) (gx_Z K D dA 0 0 (fun v w => v = none ∧ ∃ f2 v2, w = (gx_w ad (gm_h dA ad mm (va_up r 30 (.inl (dA 1, 16, .inr (.inl f2)))))) ∧ on_in f2 (am_n a) v2 ∧ on_fix a v2 ∧ sp_b 100000000000000 v2)) := by
    intro m
    induction m with
    | zero =>
      intro q f0 hq hf
      refine gx_iload_n C 0 dd_On_look_2 (kk := ?_)
      refine gx_aload_n C 2 dd_On_look_3 (kk := ?_)
      refine gm_get C fd_On_15 hia dd_On_look_4 (kk := ?_)
      refine gx_topi _ hMa.1 ?_
      refine gx_icmp_ge C 51 dd_On_look_7 (fun h7 => ?_) (fun h7 => absurd (nI_le (a := am_n a) (b := q) (by omega) (by omega)) h7)
      refine gx_iconst (v := nI 1) C dd_On_look_51 (kk := ?_)
      refine gx_istore_n C _ dd_On_look_52 (kk := ?_)
      refine gx_iconst (v := nI 0) C dd_On_look_53 (kk := ?_)
      refine gx_istore_n C _ dd_On_look_54 (kk := ?_)
      rw [show q = am_n a by omega] at hf
      exact loop (am_n a) 0 1 _ f0 (by omega) rfl (Or.inr rfl) (fun h => by cases h) hf (fun s y hy => by
        have hy : on_v a (am_n a) s = some y := hy
        unfold on_v at hy
        split at hy
        · obtain ⟨e, he, rfl⟩ := Option.map_eq_some_iff.mp hy
          have := hba.2.2.2.1 _ _ he
          omega
        · cases hy)
    | succ m ih =>
      intro q f0 hq hf
      refine gx_iload_n C 0 dd_On_look_2 (kk := ?_)
      refine gx_aload_n C 2 dd_On_look_3 (kk := ?_)
      refine gm_get C fd_On_15 hia dd_On_look_4 (kk := ?_)
      refine gx_topi _ hMa.1 ?_
      refine gx_icmp_ge C 51 dd_On_look_7 (fun h7 => absurd h7 (nI_ge (by omega) (by omega))) (fun h7 => ?_)
      refine gx_aload_n C 1 dd_On_look_10 (kk := ?_)
      refine gx_get C fd_On_9 (gm_r ((gm_un (by decide)).trans hc29)) dd_On_look_11 (kk := ?_)
      refine gx_iload_n C 0 dd_On_look_14 (kk := ?_)
      refine gx_aload_n C 2 dd_On_look_15 (kk := ?_)
      refine gm_get C fd_On_21 (by assumption) dd_On_look_16 (kk := ?_)
      refine gx_iload_n C 0 dd_On_look_19 (kk := ?_)
      refine gm_ln_e C hia dd_On_look_20 (by omega) (kk := ?_)
      refine gx_topl _ (hMa.2.2.1 q (by omega)) ?_
      refine gx_ldc2 C dd_On_look_21 kc_On_24 (kk := ?_)
      refine gx_lcmp C dd_On_look_24 (kk := ?_)
      refine gx_if_ne C 34 dd_On_look_25 (fun h25 => ?_) (fun h25 => ?_)
      · refine gx_aload_n C 2 dd_On_look_34 (kk := ?_)
        refine gm_get C fd_On_21 (by assumption) dd_On_look_35 (kk := ?_)
        refine gx_iload_n C 0 dd_On_look_38 (kk := ?_)
        refine gm_ln_e C hia dd_On_look_39 (by omega) (kk := ?_)
        refine gx_topl _ (hMa.2.2.1 q (by omega)) ?_
        refine gx_ldc2 C dd_On_look_40 kc_On_28 (kk := ?_)
        refine gx_lmul C dd_On_look_43 (kk := ?_)
        refine gx_topl (am_f (on_v a (am_n a) q)) ?_ ?_
        · rw [lc_eq, am_e_eq (fun w hw => Nat.lt_trans (hba.2.2.2.1 _ _ hw) (by decide))] at h25
          obtain ⟨e, he⟩ : ∃ e, am_en a q = some e := by
            cases hz : am_en a q with
            | none => exact absurd hz h25
            | some e => exact ⟨e, rfl⟩
          rw [show on_v a (am_n a) q = (am_en a q).map (fun e => e * 32) from if_pos (by omega), he]
          exact lN_mul e 32
        refine gz_lastore C gm_us dd_On_look_44 (by omega) (kk := fun r2 hr2 => ?_)
        refine gx_iinc C 0 (nI (q + 1)) _ dd_On_look_45 (nI_1 q) (kk := ?_)
        refine gx_goto C 2 dd_On_look_48 (kk := ?_)
        subst hr2
        rw [gm_uu]
        refine ih (q + 1) _ (by omega) ?_
        intro s hs
        by_cases h1 : s = q
        · subst h1; rw [pk_uLs]
        · rw [pk_uLn h1]; exact hf s (by omega)
      · refine gx_ldc2 C dd_On_look_28 kc_On_26 (kk := ?_)
        refine gx_goto C 44 dd_On_look_31 (kk := ?_)
        refine gx_topl (am_f (on_v a (am_n a) q)) ?_ ?_
        · rw [lc_eq, am_e_eq (fun w hw => Nat.lt_trans (hba.2.2.2.1 _ _ hw) (by decide))] at h25
          rw [show on_v a (am_n a) q = (am_en a q).map (fun e => e * 32) from if_pos (by omega), h25]
          rfl
        refine gz_lastore C gm_us dd_On_look_44 (by omega) (kk := fun r2 hr2 => ?_)
        refine gx_iinc C 0 (nI (q + 1)) _ dd_On_look_45 (nI_1 q) (kk := ?_)
        refine gx_goto C 2 dd_On_look_48 (kk := ?_)
        subst hr2
        rw [gm_uu]
        refine ih (q + 1) _ (by omega) ?_
        intro s hs
        by_cases h1 : s = q
        · subst h1; rw [pk_uLs]
        · rw [pk_uLn h1]; exact hf s (by omega)
  refine gx_iconst (v := nI 0) C dd_On_look_0 (kk := ?_)
  refine gx_istore_n C _ dd_On_look_1 (kk := ?_)
  refine gx_wld ?_ (init (am_n a) 0 f (by omega) (fun s hs => by omega))
  rw [← hc30, gm_ue]
