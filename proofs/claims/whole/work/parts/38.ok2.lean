theorem am_ok_st {a : am_T} {q w : Nat} (h : am_ok a) (hq : q < am_n a) (hw : w < 1000000001) : am_ok (am_n a, some (q, w), am_en a, am_ar a) := by
  have := h.1.1
  refine ⟨⟨h.1.1, h.1.2.1, h.1.2.2.1, h.1.2.2.2.1, fun x hx => ?_⟩, h.2.1, h.2.2.1, fun x hx => ?_, h.2.2.2.2⟩
  · cases hx
    exact ⟨by show q < 16; omega, hw⟩
  · cases hx
    exact hq
theorem am_ok_en {a : am_T} {q : Nat} {o : Option Nat} (h : am_ok a) (hq : q < am_n a) (hw : ∀ w, o = some w → w < 1000000001) : am_ok (am_n a, am_st a, va_up (am_en a) q o, am_ar a) := by
  refine ⟨⟨h.1.1, h.1.2.1, h.1.2.2.1, fun j e he => ?_, h.1.2.2.2.2⟩, h.2.1, h.2.2.1, h.2.2.2.1, fun j hj => ?_⟩
  · have he : va_up (am_en a) q o j = some e := he
    by_cases hjq : j = q
    · rw [hjq, gm_us] at he
      exact hw e he
    · rw [gm_un hjq] at he
      exact h.1.2.2.2.1 j e he
  · have hj : am_n a ≤ j := hj
    show va_up (am_en a) q o j = none
    rw [gm_un (by omega)]
    exact h.2.2.2.2 j hj
theorem am_ok_in {a : am_T} {key w : Nat} (h : am_ok a) (hr : am_rm key (am_ar a) = true) (h1 : key < 16384) (h2 : key / 1024 < am_n a) (h3 : key % 16 < am_n a) (hw : w < 1000000001) : am_ok (am_n a, am_st a, am_en a, am_in key w (am_ar a)) := by
  refine ⟨⟨h.1.1, am_in_len hr h.1.2.1, fun x hx => ?_, h.1.2.2.2⟩, am_in_so h.2.1, fun x hx => ?_, h.2.2.2⟩
  · rcases am_in_mem hx with hx | ⟨hx, hy⟩
    · exact h.1.2.2.1 x hx
    · refine ⟨by rw [hx]; exact h1, ?_⟩
      rcases hy with hy | ⟨z, hz, hy⟩
      · rw [hy]; exact hw
      · rw [hy]; exact (h.1.2.2.1 z hz).2
  · rcases am_in_mem hx with hx | ⟨hx, hy⟩
    · exact h.2.2.1 x hx
    · rw [hx]; exact ⟨h2, h3⟩
theorem am_ok_fit {a : am_T} (h : am_ok a) : am_fit a = true := am_fit_of (fun x hx => by have := (h.1.2.2.2.2 x hx).2; omega) (fun q e he => by have := h.1.2.2.2.1 q e he; omega) (fun x hx => by have := (h.1.2.2.1 x hx).2; omega)
theorem mk_brs_w {B : Nat} : ∀ (I l : List (Nat × Nat)), (∀ x ∈ l, x.2 ≤ B) → (∀ x ∈ I, x.2 ≤ B) → ∀ x ∈ I.foldl mk_br l, x.2 ≤ B
  | [], l, h, _ => h
  | y :: I, l, h, hI => by
    refine mk_brs_w I (mk_br l y) (fun x hx => ?_) (fun z hz => hI z (List.mem_cons_of_mem _ hz))
    unfold mk_br at hx
    split at hx
    · rcases am_in_mem hx with hx | ⟨-, hy⟩
      · exact h x hx
      · rcases hy with hy | ⟨z, hz, hy⟩
        · rw [hy]; exact hI y List.mem_cons_self
        · rw [hy]; exact h z hz
    · exact h x hx
theorem tr_fit {a : am_T} {P : Nat → Bool} (h : am_ok a) : am_fit (tr_mk a P) = true := by
  refine am_fit_of (fun x hx => ?_) (fun q e he => ?_) (fun x hx => ?_)
  · have hx : tr_st a P = some x := hx
    unfold tr_st at hx
    split at hx
    · cases hx
    · cases hs : am_st a with
      | none => rw [hs] at hx; cases hx
      | some s =>
        rw [hs] at hx
        cases hx
        have := (h.1.2.2.2.2 s hs).2
        show s.2 ≤ 1000000000
        omega
  · have hes : ∀ k q e, tr_es a P k q = some e → e ≤ 1000000000 := fun k => by
      induction k with
      | zero => intro q e he; cases he
      | succ k ih =>
        intro q e he
        cases hp : P k with
        | false => rw [tr_es_n hp] at he; exact ih q e he
        | true =>
          rw [tr_es_y hp] at he
          by_cases hq : q = pc_P P k
          · rw [hq, gm_us] at he
            have := h.1.2.2.2.1 k e he
            omega
          · rw [gm_un hq] at he
            exact ih q e he
    exact hes _ q e he
  · have hx : x ∈ tr_ar P (am_ar a) (am_ar a).length := hx
    unfold tr_ar at hx
    refine mk_brs_w _ _ (fun x hx => absurd hx List.not_mem_nil) (fun y hy => ?_) x hx
    obtain ⟨z, hz, hy⟩ := List.mem_filterMap.mp hy
    unfold tr_i at hy
    split at hy
    · cases hy
      have := (h.1.2.2.1 z (List.mem_of_mem_take hz)).2
      show z.2 ≤ 1000000000
      omega
    · cases hy
-- parse
theorem pr_s0_ok {X : List Nat} {k : Nat} {a : am_T} (h : pr_s0 X = .inr (k, a)) : am_ok a := by
  have hb := pr_s0_r h
  unfold pr_s0 at h
  rcases h1 : pr_sgn X 110 0 with e | k1
  · rw [pr_bdl h1] at h; cases h
  · rw [pr_bdr h1] at h
    rcases h2 : pr_num X 17 k1 with e | ⟨k2, v2⟩
    · rw [pr_bdl h2] at h; cases h
    · rw [pr_bdr h2] at h
      rcases h3 : pr_sgn X 59 k2 with e | k3
      · rw [pr_bdl (x := pr_sgn X 59 (k2, v2).1) h3] at h; cases h
      · rw [pr_bdr (x := pr_sgn X 59 (k2, v2).1) h3] at h
        cases h
        exact am_ok_0 hb.2
theorem pr_st_ok {X : List Nat} {a b : am_T} {k k2 : Nat} (h : pr_st X a k = .inr (k2, b)) (ha : am_ok a) : am_ok b := by
  unfold pr_st at h
  rcases h1 : pr_num X (am_n a) k with e | ⟨k1, v1⟩
  · rw [pr_bdl h1] at h; cases h
  · rw [pr_bdr h1] at h
    split at h
    · cases h
    · rcases h2 : pr_wt X k1 with e | ⟨k3, v3⟩
      · rw [pr_bdl (x := pr_wt X (k1, v1).1) h2] at h; cases h
      · rw [pr_bdr (x := pr_wt X (k1, v1).1) h2] at h
        cases h
        exact am_ok_st ha (pr_num_r h1).2.2 (pr_wt_r h2).2.2
theorem pr_en_ok {X : List Nat} {a b : am_T} {k k2 : Nat} (h : pr_en X a k = .inr (k2, b)) (ha : am_ok a) : am_ok b := by
  unfold pr_en at h
  rcases h1 : pr_num X (am_n a) k with e | ⟨k1, v1⟩
  · rw [pr_bdl h1] at h; cases h
  · rw [pr_bdr h1] at h
    split at h
    · cases h
    · rcases h2 : pr_wt X k1 with e | ⟨k3, v3⟩
      · rw [pr_bdl (x := pr_wt X (k1, v1).1) h2] at h; cases h
      · rw [pr_bdr (x := pr_wt X (k1, v1).1) h2] at h
        cases h
        exact am_ok_en ha (pr_num_r h1).2.2 (fun w hw => by cases hw; exact (pr_wt_r h2).2.2)
theorem pr_ar_ok {X : List Nat} {a b : am_T} {k k2 : Nat} (h : pr_ar X a k = .inr (k2, b)) (ha : am_ok a) : am_ok b := by
  unfold pr_ar at h
  rcases h1 : pr_num X (am_n a) k with e | ⟨k1, v1⟩
  · rw [pr_bdl h1] at h; cases h
  rw [pr_bdr h1] at h
  rcases h2 : pr_sgn X 45 k1 with e | q2
  · rw [pr_bdl (x := pr_sgn X 45 (k1, v1).1) h2] at h; cases h
  rw [pr_bdr (x := pr_sgn X 45 (k1, v1).1) h2] at h
  rcases h3 : pr_num X (am_n a) q2 with e | ⟨k3, v3⟩
  · rw [pr_bdl h3] at h; cases h
  rw [pr_bdr h3] at h
  rcases h4 : pr_sgn X 58 k3 with e | k4
  · rw [pr_bdl (x := pr_sgn X 58 (k3, v3).1) h4] at h; cases h
  rw [pr_bdr (x := pr_sgn X 58 (k3, v3).1) h4] at h
  rcases h5 : pr_lab X k4 with e | ⟨k5, v5⟩
  · rw [pr_bdl h5] at h; cases h
  rw [pr_bdr h5] at h
  rcases h6 : pr_lab X k5 with e | ⟨k6, v6⟩
  · rw [pr_bdl (x := pr_lab X (k5, v5).1) h6] at h; cases h
  rw [pr_bdr (x := pr_lab X (k5, v5).1) h6] at h
  rcases h7 : pr_wt X k6 with e | ⟨k7, v7⟩
  · rw [pr_bdl (x := pr_wt X (k6, v6).1) h7] at h; cases h
  rw [pr_bdr (x := pr_wt X (k6, v6).1) h7] at h
  split at h
  · rename_i hr
    cases h
    have a1 := (pr_num_r h1).2.2
    have a3 := (pr_num_r h3).2.2
    have a5 := (pr_lab_r h5).2.2
    have a6 := (pr_lab_r h6).2.2
    have a7 := (pr_wt_r h7).2.2
    have hn := ha.1.1
    have hk : pr_k v1 v5 v6 v3 = v1 * 1024 + (8 * v5 + v6) * 16 + v3 := rfl
    refine am_ok_in ha hr ?_ ?_ ?_ a7
    · show pr_k v1 v5 v6 v3 < 16384; omega
    · show pr_k v1 v5 v6 v3 / 1024 < am_n a; omega
    · show pr_k v1 v5 v6 v3 % 16 < am_n a; omega
  · cases h
theorem pr_it_ok {X : List Nat} {a b : am_T} {k k2 : Nat} (h : pr_it X a k = .inr (k2, b)) (ha : am_ok a) : am_ok b := by
  unfold pr_it at h
  split at h
  · exact pr_st_ok h ha
  · split at h
    · exact pr_en_ok h ha
    · exact pr_ar_ok h ha
theorem pr_lp_ok {X : List Nat} : ∀ (m : Nat) (x : Nat × am_T) {b : am_T}, pr_lp X m x = .inr b → am_ok x.2 → am_ok b
  | 0, x, b, h, hx => by
    cases h
    exact hx
  | m + 1, x, b, h, hx => by
    unfold pr_lp at h
    split at h
    · rcases hi : pr_it X x.2 x.1 with e | y
      · rw [pr_bdl hi] at h; cases h
      · rw [pr_bdr hi] at h
        exact pr_lp_ok m y h (pr_it_ok (k2 := y.1) hi hx)
    · cases h
      exact hx
theorem pr_all_ok {X : List Nat} {b : am_T} (h : pr_all X = .inr b) : am_ok b := by
  unfold pr_all at h
  rcases hs : pr_s0 X with e | y
  · rw [pr_bdl hs] at h; cases h
  · rw [pr_bdr hs] at h
    exact pr_lp_ok 1600 y h (pr_s0_ok (k := y.1) hs)
theorem am_ok_pre {a : am_T} (h : am_ok a) : am_pre a := ⟨h.1.1, ⟨h.1.2.1, h.2.1, fun x hx => ⟨(h.1.2.2.1 x hx).1, h.2.2.1 x hx⟩⟩, h.2.2.2⟩
-- every call
theorem ok_fresh {σ : sg} (h : sg_ok σ) (s n : Int32) : sg_ok (o_fresh σ s n).2 := by
  unfold o_fresh
  split
  · rename_i i m hi hm
    have := (ix_of (by decide) hm).1
    exact sg_ok_set h (am_ok_0 (by omega))
  · exact h
theorem ok_start {σ : sg} (h : sg_ok σ) (s q w : Int32) : sg_ok (o_start σ s q w).2 := by
  unfold o_start
  split
  · rename_i x m hx hm
    have h1 := o_is_of h hx
    have h2 := (ix_of (by decide) hm).1
    exact sg_ok_set h (am_ok_st (h.1 _ h1.1) h1.2.2.1 h2)
  · exact h
theorem o_e_lt {w : Int32} {o : Option Nat} (h : o_e w = some o) : ∀ e, o = some e → e < 1000000001 := by
  unfold o_e at h
  split at h
  · cases h
    intro e he
    cases he
  · split at h
    · cases h
    · rename_i m hm
      cases h
      intro e he
      cases he
      exact (ix_of (by decide) hm).1
theorem ok_end {σ : sg} (h : sg_ok σ) (s q w : Int32) : sg_ok (o_end σ s q w).2 := by
  unfold o_end
  split
  · rename_i x o hx ho
    have h1 := o_is_of h hx
    exact sg_ok_set h (am_ok_en (h.1 _ h1.1) h1.2.2.1 (o_e_lt ho))
  · exact h
theorem ok_arc {σ : sg} (h : sg_ok σ) (s f t g w : Int32) : sg_ok (o_arc σ s f t g w).2 := by
  unfold o_arc
  split
  · rename_i x y b m hx hy hb hm
    have h1 := o_is_of h hx
    have h2 := o_is_of h hy
    have h3 := (ix_of (by decide) hb).1
    have h4 := (ix_of (by decide) hm).1
    have hn := (h.1 _ h1.1).1.1
    have he : y.1 = x.1 := ((nI_eq (by omega) (by omega)).mp (h1.2.1.symm.trans h2.2.1)).symm
    have hyn := h2.2.2.1
    rw [he] at hyn
    split
    · rename_i hr
      exact sg_ok_set h (am_ok_in (h.1 _ h1.1) hr (by omega) (by omega) (by omega) h4)
    · exact h
  · exact h
theorem ok_compose {σ : sg} (h : sg_ok σ) (a b c : Int32) : sg_ok (o_compose σ a b c).2 := by
  unfold o_compose
  split
  · exact sg_ok_keep h (fun m hm => co_mk_pre hm)
  · exact h
theorem ok_bare {σ : sg} (h : sg_ok σ) (a c : Int32) : sg_ok (o_bare σ a c).2 := by
  unfold o_bare
  split
  · rename_i i k hi hk
    exact sg_ok_keep h (fun m hm => ba_mk_pre (h.1 i (ix_of (by decide) hi).1) hm)
  · exact h
theorem ok_determine {σ : sg} (h : sg_ok σ) (a c : Int32) : sg_ok (o_determine σ a c).2 := by
  unfold o_determine
  split
  · rename_i i k hi hk
    by_cases hf : am_fitd (σ.1 i)
    · rw [if_pos hf]
      exact sg_ok_keep h (fun m hm => de_mk_pre hm)
    · rw [if_neg hf]
      exact h
  · exact h
theorem ok_push {σ : sg} (h : sg_ok σ) (a c : Int32) : sg_ok (o_push σ a c).2 := by
  unfold o_push
  split
  · rename_i i k hi hk
    exact sg_ok_keep h (fun m hm => by cases hm; exact pu_mk_pre (h.1 i (ix_of (by decide) hi).1))
  · exact h
theorem ok_trim {σ : sg} (h : sg_ok σ) (a c : Int32) : sg_ok (o_trim σ a c).2 := by
  unfold o_trim
  split
  · rename_i i k hi hk
    exact sg_ok_keep h (fun m hm => by cases hm; exact tr_mk_pre (h.1 i (ix_of (by decide) hi).1))
  · exact h
theorem ok_weigh {σ : sg} (h : sg_ok σ) (s x y : Int32) : sg_ok (o_weigh σ s x y).2 := by
  unfold o_weigh
  split <;> exact h
theorem on_path_le {l : List (Nat × Nat)} {v : ls_V} : ∀ m q, (on_path l v m q).length ≤ m ∧ ∀ x ∈ on_path l v m q, x ∈ l
  | 0, q => ⟨Nat.le_refl _, fun x hx => absurd hx List.not_mem_nil⟩
  | m + 1, q => by
    rcases hf : l.findIdx? (on_p v q) with _ | i
    · rw [on_path_n hf]
      exact ⟨Nat.zero_le _, fun x hx => absurd hx List.not_mem_nil⟩
    · obtain ⟨x, hx, -⟩ := on_fx hf
      rw [on_path_s hf hx]
      have ih := on_path_le (l := l) (v := v) m (x.1 % 16)
      refine ⟨Nat.succ_le_succ ih.1, fun y hy => ?_⟩
      rcases List.mem_cons.mp hy with rfl | hy
      · exact List.mem_of_getElem? hx
      · exact ih.2 y hy
theorem ok_best {σ : sg} (h : sg_ok σ) (s : Int32) : sg_ok (o_best σ s).2 := by
  unfold o_best
  split
  · exact h
  · rename_i i hi
    have ha := h.1 i (ix_of (by decide) hi).1
    split
    · exact h
    · rename_i x hx
      split
      · exact h
      · rename_i c hc
        have hp := on_path_le (l := am_ar (σ.1 i)) (v := on_of (σ.1 i)) (min (c % 32) 16) x.1
        exact ⟨h.1, Nat.le_trans hp.1 (Nat.min_le_right _ _), fun z hz => ha.1.2.2.1 z (hp.2 z hz)⟩
theorem ok_step {σ : sg} (h : sg_ok σ) (k what : Int32) : sg_ok (o_step σ k what).2 := h
theorem ok_count {σ : sg} (h : sg_ok σ) (s what : Int32) : sg_ok (o_count σ s what).2 := by
  unfold o_count
  split <;> exact h
theorem ok_part {σ : sg} (h : sg_ok σ) (s k what : Int32) : sg_ok (o_part σ s k what).2 := by
  unfold o_part
  split <;> exact h
theorem ok_endOf {σ : sg} (h : sg_ok σ) (s q : Int32) : sg_ok (o_endOf σ s q).2 := by
  unfold o_endOf
  split <;> exact h
theorem ok_print {σ : sg} (h : sg_ok σ) (s : Int32) : sg_ok (o_print σ s).2 := by
  unfold o_print
  split <;> exact h
theorem ok_parse {σ : sg} (h : sg_ok σ) (s : Int32) : sg_ok (o_parse σ s).2 := by
  unfold o_parse
  split
  · exact h
  · split
    · exact h
    · rename_i a ha
      exact sg_ok_keep h (fun m hm => by cases hm; exact am_ok_pre (pr_all_ok ha))
theorem ok_feed {σ : sg} (h : sg_ok σ) (x : Int64) (n : Int32) : sg_ok (o_feed σ x n).2 := by
  unfold o_feed
  split
  · exact h
  · exact h
  · split <;> exact h
theorem ok_letter {σ : sg} (h : sg_ok σ) (i : Int32) : sg_ok (o_letter σ i).2 := h
