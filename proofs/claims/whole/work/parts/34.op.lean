/-! THE CALLS, as both sides keep them: answer and state behind -/
def o_set (σ : sg) (i : Nat) (a : am_T) : sg := (va_up σ.1 i a, σ.2)
def o_fresh (σ : sg) (s n : Int32) : Int32 × sg := match ix 4 s, ix 17 n with
  | some i, some m => (nI 1, o_set σ i (m, none, (fun _ => none), []))
  | _, _ => (nI 0, σ)
def o_start (σ : sg) (s q w : Int32) : Int32 × sg := match o_is σ s q, ix 1000000001 w with
  | some x, some m => (nI 1, o_set σ x.1 (am_n (σ.1 x.1), some (x.2, m), am_en (σ.1 x.1), am_ar (σ.1 x.1)))
  | _, _ => (nI 0, σ)
def o_e (w : Int32) : Option (Option Nat) := if w = -1 then some none else match ix 1000000001 w with
  | none => none
  | some m => some (some m)
def o_end (σ : sg) (s q w : Int32) : Int32 × sg := match o_is σ s q, o_e w with
  | some x, some o => (nI 1, o_set σ x.1 (am_n (σ.1 x.1), am_st (σ.1 x.1), va_up (am_en (σ.1 x.1)) x.2 o, am_ar (σ.1 x.1)))
  | _, _ => (nI 0, σ)
def o_arc (σ : sg) (s f t g w : Int32) : Int32 × sg := match o_is σ s f, o_is σ s t, ix 64 g, ix 1000000001 w with
  | some x, some y, some h, some m => if am_rm (x.2 * 1024 + h * 16 + y.2) (am_ar (σ.1 x.1)) = true then (nI (am_in (x.2 * 1024 + h * 16 + y.2) m (am_ar (σ.1 x.1))).length, o_set σ x.1 (am_n (σ.1 x.1), am_st (σ.1 x.1), am_en (σ.1 x.1), am_in (x.2 * 1024 + h * 16 + y.2) m (am_ar (σ.1 x.1)))) else (-2, σ)
  | _, _, _, _ => (-1, σ)
def o_keep (σ : sg) (c : Nat) (o : Option am_T) (g : am_T → Nat) : Int32 × sg := match o with
  | none => (-2, σ)
  | some b => if am_fit b = true then (nI (g b), o_set σ c b) else (-2, σ)
def o_compose (σ : sg) (a b c : Int32) : Int32 × sg := match ix 4 a, ix 4 b, ix 4 c with
  | some i, some j, some k => o_keep σ k (co_mk (σ.1 i) (σ.1 j)) am_n
  | _, _, _ => (-1, σ)
abbrev am_c (a : am_T) : Nat := (am_ar a).length
def o_bare (σ : sg) (a c : Int32) : Int32 × sg := match ix 4 a, ix 4 c with
  | some i, some k => o_keep σ k (ba_mk (σ.1 i)) am_c
  | _, _ => (-1, σ)
def am_fitd (a : am_T) : Prop := am_cl (am_ar a) = true ∧ ¬ ∃ s, am_wk (am_ar a) (am_n a) (am_n a) s
noncomputable def o_determine (σ : sg) (a c : Int32) : Int32 × sg := match ix 4 a, ix 4 c with
  | some i, some k => @ite _ (am_fitd (σ.1 i)) (Classical.propDecidable _) (o_keep σ k (de_mk (σ.1 i)) am_n) (-3, σ)
  | _, _ => (-1, σ)
def on_of (a : am_T) : ls_V := ls_it ((am_ar a).map on_x) 16 (on_v a (am_n a))
theorem on_of_fix {a : am_T} (h : am_ok a) : on_fix a (on_of a) := ls_it_fix (N := am_n a) (on_E h.2.2.1) (by have := h.1.1; omega)
def o_push (σ : sg) (a c : Int32) : Int32 × sg := match ix 4 a, ix 4 c with
  | some i, some k => o_keep σ k (some (pu_mk (σ.1 i) (on_of (σ.1 i)))) am_c
  | _, _ => (-1, σ)
def o_trim (σ : sg) (a c : Int32) : Int32 × sg := match ix 4 a, ix 4 c with
  | some i, some k => o_keep σ k (some (tr_mk (σ.1 i) (tr_P (σ.1 i)))) am_n
  | _, _ => (-1, σ)
def o_weigh (σ : sg) (s x y : Int32) : Int64 × sg := match ix 4 s with
  | none => (-1, σ)
  | some i => (am_e (we_an (σ.1 i) x y), σ)
def o_best (σ : sg) (s : Int32) : Int64 × sg := match ix 4 s with
  | none => (-1, σ)
  | some i => match am_st (σ.1 i) with
    | none => (-1, σ)
    | some x => match on_of (σ.1 i) x.1 with
      | none => (-1, σ)
      | some c => (lN (x.2 + c / 32), (σ.1, on_path (am_ar (σ.1 i)) (on_of (σ.1 i)) (min (c % 32) 16) x.1, σ.2.2))
def o_pt (l : List (Nat × Nat)) (k what : Int32) : Int32 := match ix l.length k with
  | none => -1
  | some j => match l[j]? with
    | none => -1
    | some x => ap_v x what
def o_step (σ : sg) (k what : Int32) : Int32 × sg := (o_pt σ.2.1 k what, σ)
def o_ct (a : am_T) (what : Int32) : Int32 := match ix 5 what with
  | some 0 => nI (am_n a)
  | some 1 => nI (am_ar a).length
  | some 2 => nI (am_ce (am_en a) (am_n a))
  | some 3 => on_r ((am_st a).map (fun x => x.1))
  | some 4 => on_r ((am_st a).map (fun x => x.2))
  | _ => -1
def o_count (σ : sg) (s what : Int32) : Int32 × sg := match ix 4 s with
  | none => (-1, σ)
  | some i => (o_ct (σ.1 i) what, σ)
def o_part (σ : sg) (s k what : Int32) : Int32 × sg := match ix 4 s with
  | none => (-1, σ)
  | some i => (o_pt (am_ar (σ.1 i)) k what, σ)
def o_endOf (σ : sg) (s q : Int32) : Int32 × sg := match o_is σ s q with
  | none => (-1, σ)
  | some x => (on_r (am_en (σ.1 x.1) x.2), σ)
def o_print (σ : sg) (s : Int32) : Int32 × sg := match ix 4 s with
  | none => (-1, σ)
  | some i => (nI (te_ps [] (te_all (σ.1 i))).length, (σ.1, σ.2.1, te_ps [] (te_all (σ.1 i))))
def o_parse (σ : sg) (s : Int32) : Int32 × sg := match ix 4 s with
  | none => (-1, σ)
  | some i => match pr_all σ.2.2 with
    | .inl f => (f, σ)
    | .inr a => o_keep σ i (some a) am_c
def lt_ds (x : Int64) : Nat → List Nat
  | 0 => []
  | m + 1 => lt_b x m :: lt_ds x m
def o_feed (σ : sg) (x : Int64) (n : Int32) : Int32 × sg := match ix 9 n with
  | none => (-1, σ)
  | some 0 => (nI 0, (σ.1, σ.2.1, []))
  | some m => if σ.2.2.length + m ≤ 1600 ∧ lt_ok x m = true then (nI (σ.2.2.length + m), (σ.1, σ.2.1, σ.2.2 ++ lt_ds x m)) else (-1, σ)
def o_letter (σ : sg) (i : Int32) : Int32 × sg := (if i < 0 then -1 else on_r σ.2.2[i.toNatClampNeg]?, σ)
/-! HOW THE CLASS'S CELLS KEEP IT -/
theorem ro_at_t {dA : Nat → ClassId} {ad : Nat → Nat} {r r2 : Nat → va_E} {qo qa : Nat} {L : List Nat} (e1 : r2 qo = r qo) (e2 : r2 qa = r qa) (h : ro_at dA ad r qo qa L) : ro_at dA ad r2 qo qa L := by
  unfold ro_at at h ⊢
  rw [e1, e2]
  exact h
def cw_a (dA : Nat → ClassId) (ad : Nat → Nat) (r : Nat → va_E) : Prop := ∃ x1 x2 x3 tri, r 22 = .inr (2, [x1, x2, x3, .ref (ad 23)]) ∧ r 23 = .inl (dA 0, 16, .inl tri)
theorem cw_a_t {dA : Nat → ClassId} {ad : Nat → Nat} {r r2 : Nat → va_E} (e : ∀ k, 22 ≤ k → k ≤ 23 → r2 k = r k) (h : cw_a dA ad r) : cw_a dA ad r2 := by
  obtain ⟨x1, x2, x3, tri, h1, h2⟩ := h
  exact ⟨x1, x2, x3, tri, by rw [e 22 (by decide) (by decide)]; exact h1, by rw [e 23 (by decide) (by decide)]; exact h2⟩
def cw_b (dA : Nat → ClassId) (ad : Nat → Nat) (r : Nat → va_E) : Prop := ∃ f, r 24 = .inr (0, [.ref (ad 25)]) ∧ r 25 = .inl (dA 1, 16, .inr (.inl f))
theorem cw_b_t {dA : Nat → ClassId} {ad : Nat → Nat} {r r2 : Nat → va_E} (e : ∀ k, 24 ≤ k → k ≤ 25 → r2 k = r k) (h : cw_b dA ad r) : cw_b dA ad r2 := by
  obtain ⟨f, h1, h2⟩ := h
  exact ⟨f, by rw [e 24 (by decide) (by decide)]; exact h1, by rw [e 25 (by decide) (by decide)]; exact h2⟩
def cw_c (dA : Nat → ClassId) (ad : Nat → Nat) (r : Nat → va_E) : Prop := ∃ x1 x2 fr fn, r 26 = .inr (3, [x1, x2, .ref (ad 27), .ref (ad 28)]) ∧ r 27 = .inl (dA 1, 256, .inr (.inl fr)) ∧ r 28 = .inl (dA 1, 16, .inr (.inl fn))
theorem cw_c_t {dA : Nat → ClassId} {ad : Nat → Nat} {r r2 : Nat → va_E} (e : ∀ k, 26 ≤ k → k ≤ 28 → r2 k = r k) (h : cw_c dA ad r) : cw_c dA ad r2 := by
  obtain ⟨x1, x2, fr, fn, h1, h2, h3⟩ := h
  exact ⟨x1, x2, fr, fn, by rw [e 26 (by decide) (by decide)]; exact h1, by rw [e 27 (by decide) (by decide)]; exact h2, by rw [e 28 (by decide) (by decide)]; exact h3⟩
def cw_d (dA : Nat → ClassId) (ad : Nat → Nat) (r : Nat → va_E) : Prop := ∃ f, r 29 = .inr (5, [.ref (ad 30)]) ∧ r 30 = .inl (dA 1, 16, .inr (.inl f))
theorem cw_d_t {dA : Nat → ClassId} {ad : Nat → Nat} {r r2 : Nat → va_E} (e : ∀ k, 29 ≤ k → k ≤ 30 → r2 k = r k) (h : cw_d dA ad r) : cw_d dA ad r2 := by
  obtain ⟨f, h1, h2⟩ := h
  exact ⟨f, by rw [e 29 (by decide) (by decide)]; exact h1, by rw [e 30 (by decide) (by decide)]; exact h2⟩
def cw_e (dA : Nat → ClassId) (ad : Nat → Nat) (r : Nat → va_E) : Prop := we_ok dA ad r
theorem cw_e_t {dA : Nat → ClassId} {ad : Nat → Nat} {r r2 : Nat → va_E} (e : ∀ k, 31 ≤ k → k ≤ 36 → r2 k = r k) (h : cw_e dA ad r) : cw_e dA ad r2 := by
  obtain ⟨h1, ⟨L, h2⟩, ⟨L2, h3⟩, f, h4⟩ := h
  exact ⟨by rw [e 31 (by decide) (by decide)]; exact h1, ⟨L, ro_at_t (e 32 (by decide) (by decide)) (e 33 (by decide) (by decide)) h2⟩, ⟨L2, ro_at_t (e 34 (by decide) (by decide)) (e 35 (by decide) (by decide)) h3⟩, f, by rw [e 36 (by decide) (by decide)]; exact h4⟩
def cw_f (dA : Nat → ClassId) (ad : Nat → Nat) (r : Nat → va_E) : Prop := ∃ t0 m0 x0 y0, r 42 = .inr (6, [t0, m0, .int x0, .long y0])
theorem cw_f_t {dA : Nat → ClassId} {ad : Nat → Nat} {r r2 : Nat → va_E} (e : ∀ k, 42 ≤ k → k ≤ 42 → r2 k = r k) (h : cw_f dA ad r) : cw_f dA ad r2 := by
  obtain ⟨t0, m0, x0, y0, h1⟩ := h
  exact ⟨t0, m0, x0, y0, by rw [e 42 (by decide) (by decide)]; exact h1⟩
theorem bp_at_t {dA : Nat → ClassId} {ad : Nat → Nat} {r r2 : Nat → va_E} {P : List (Nat × Nat)} (e : ∀ k, 37 ≤ k → k ≤ 39 → r2 k = r k) (h : bp_at dA ad r P) : bp_at dA ad r2 P := by
  unfold bp_at at h ⊢
  rw [e 37 (by decide) (by decide), e 38 (by decide) (by decide), e 39 (by decide) (by decide)]
  exact h
theorem te_at_t {dA : Nat → ClassId} {ad : Nat → Nat} {r r2 : Nat → va_E} {X : List Nat} (e : ∀ k, 40 ≤ k → k ≤ 41 → r2 k = r k) (h : te_at dA ad r X) : te_at dA ad r2 X := by
  unfold te_at at h ⊢
  rw [e 40 (by decide) (by decide), e 41 (by decide) (by decide)]
  exact h
def cs_R (dA : Nat → ClassId) (ad : Nat → Nat) (r : Nat → va_E) (σ : sg) : Prop := cw_a dA ad r ∧ cw_b dA ad r ∧ cw_c dA ad r ∧ cw_d dA ad r ∧ cw_e dA ad r ∧ cw_f dA ad r ∧ bp_at dA ad r σ.2.1 ∧ te_at dA ad r σ.2.2
theorem cs_get {dA : Nat → ClassId} {ad : Nat → Nat} {mm : Nat → gm_V} {r : Nat → va_E} {σ : sg} (h : cs dA ad mm r σ) : ∃ π f, cs_pi π ∧ r 0 = wm_c ad (π 4) ∧ r 1 = wm_f dA f ∧ cs_s ad π f ∧ (∀ i, i < 4 → gm_is (mm (π i)) (σ.1 i)) ∧ cs_R dA ad r σ := by
  obtain ⟨π, f, h1, h2, h3, h4, h5, ⟨a, b, c, d, e, g⟩, hp, ht⟩ := h
  exact ⟨π, f, h1, h2, h3, h4, h5, a, b, c, d, e, g, hp, ht⟩
theorem cs_put {dA : Nat → ClassId} {ad : Nat → Nat} {mm : Nat → gm_V} {r : Nat → va_E} {σ : sg} {π : Nat → Nat} {f : Nat → Option Nat} (h1 : cs_pi π) (h2 : r 0 = wm_c ad (π 4)) (h3 : r 1 = wm_f dA f) (h4 : cs_s ad π f) (h5 : ∀ i, i < 4 → gm_is (mm (π i)) (σ.1 i)) (h6 : cs_R dA ad r σ) : cs dA ad mm r σ := by
  obtain ⟨a, b, c, d, e, g, hp, ht⟩ := h6
  exact ⟨π, f, h1, h2, h3, h4, h5, ⟨a, b, c, d, e, g⟩, hp, ht⟩
theorem cs_R_0 {dA : Nat → ClassId} {ad : Nat → Nat} {r r2 : Nat → va_E} {σ : sg} (e : ∀ k, 22 ≤ k → k ≤ 42 → r2 k = r k) (h : cs_R dA ad r σ) : cs_R dA ad r2 σ := by
  obtain ⟨ha, hb, hc, hd, he, hf, hp, ht⟩ := h
  exact ⟨cw_a_t (fun k l1 l2 => e k (by omega) (by omega)) ha, cw_b_t (fun k l1 l2 => e k (by omega) (by omega)) hb, cw_c_t (fun k l1 l2 => e k (by omega) (by omega)) hc, cw_d_t (fun k l1 l2 => e k (by omega) (by omega)) hd, cw_e_t (fun k l1 l2 => e k (by omega) (by omega)) he, cw_f_t (fun k l1 l2 => e k (by omega) (by omega)) hf, bp_at_t (fun k l1 l2 => e k (by omega) (by omega)) hp, te_at_t (fun k l1 l2 => e k (by omega) (by omega)) ht⟩
theorem cs_R_a {dA : Nat → ClassId} {ad : Nat → Nat} {r r2 : Nat → va_E} {σ : sg} (e : ∀ k, 22 ≤ k → k ≤ 42 → (k < 22 ∨ 23 < k) → r2 k = r k) (h : cs_R dA ad r σ) (hn : cw_a dA ad r2) : cs_R dA ad r2 σ := by
  obtain ⟨ha, hb, hc, hd, he, hf, hp, ht⟩ := h
  exact ⟨hn, cw_b_t (fun k l1 l2 => e k (by omega) (by omega) (by omega)) hb, cw_c_t (fun k l1 l2 => e k (by omega) (by omega) (by omega)) hc, cw_d_t (fun k l1 l2 => e k (by omega) (by omega) (by omega)) hd, cw_e_t (fun k l1 l2 => e k (by omega) (by omega) (by omega)) he, cw_f_t (fun k l1 l2 => e k (by omega) (by omega) (by omega)) hf, bp_at_t (fun k l1 l2 => e k (by omega) (by omega) (by omega)) hp, te_at_t (fun k l1 l2 => e k (by omega) (by omega) (by omega)) ht⟩
theorem cs_R_b {dA : Nat → ClassId} {ad : Nat → Nat} {r r2 : Nat → va_E} {σ : sg} (e : ∀ k, 22 ≤ k → k ≤ 42 → (k < 24 ∨ 25 < k) → r2 k = r k) (h : cs_R dA ad r σ) (hn : cw_b dA ad r2) : cs_R dA ad r2 σ := by
  obtain ⟨ha, hb, hc, hd, he, hf, hp, ht⟩ := h
  exact ⟨cw_a_t (fun k l1 l2 => e k (by omega) (by omega) (by omega)) ha, hn, cw_c_t (fun k l1 l2 => e k (by omega) (by omega) (by omega)) hc, cw_d_t (fun k l1 l2 => e k (by omega) (by omega) (by omega)) hd, cw_e_t (fun k l1 l2 => e k (by omega) (by omega) (by omega)) he, cw_f_t (fun k l1 l2 => e k (by omega) (by omega) (by omega)) hf, bp_at_t (fun k l1 l2 => e k (by omega) (by omega) (by omega)) hp, te_at_t (fun k l1 l2 => e k (by omega) (by omega) (by omega)) ht⟩
theorem cs_R_c {dA : Nat → ClassId} {ad : Nat → Nat} {r r2 : Nat → va_E} {σ : sg} (e : ∀ k, 22 ≤ k → k ≤ 42 → (k < 26 ∨ 28 < k) → r2 k = r k) (h : cs_R dA ad r σ) (hn : cw_c dA ad r2) : cs_R dA ad r2 σ := by
  obtain ⟨ha, hb, hc, hd, he, hf, hp, ht⟩ := h
  exact ⟨cw_a_t (fun k l1 l2 => e k (by omega) (by omega) (by omega)) ha, cw_b_t (fun k l1 l2 => e k (by omega) (by omega) (by omega)) hb, hn, cw_d_t (fun k l1 l2 => e k (by omega) (by omega) (by omega)) hd, cw_e_t (fun k l1 l2 => e k (by omega) (by omega) (by omega)) he, cw_f_t (fun k l1 l2 => e k (by omega) (by omega) (by omega)) hf, bp_at_t (fun k l1 l2 => e k (by omega) (by omega) (by omega)) hp, te_at_t (fun k l1 l2 => e k (by omega) (by omega) (by omega)) ht⟩
theorem cs_R_d {dA : Nat → ClassId} {ad : Nat → Nat} {r r2 : Nat → va_E} {σ : sg} (e : ∀ k, 22 ≤ k → k ≤ 42 → (k < 29 ∨ 30 < k) → r2 k = r k) (h : cs_R dA ad r σ) (hn : cw_d dA ad r2) : cs_R dA ad r2 σ := by
  obtain ⟨ha, hb, hc, hd, he, hf, hp, ht⟩ := h
  exact ⟨cw_a_t (fun k l1 l2 => e k (by omega) (by omega) (by omega)) ha, cw_b_t (fun k l1 l2 => e k (by omega) (by omega) (by omega)) hb, cw_c_t (fun k l1 l2 => e k (by omega) (by omega) (by omega)) hc, hn, cw_e_t (fun k l1 l2 => e k (by omega) (by omega) (by omega)) he, cw_f_t (fun k l1 l2 => e k (by omega) (by omega) (by omega)) hf, bp_at_t (fun k l1 l2 => e k (by omega) (by omega) (by omega)) hp, te_at_t (fun k l1 l2 => e k (by omega) (by omega) (by omega)) ht⟩
theorem cs_R_e {dA : Nat → ClassId} {ad : Nat → Nat} {r r2 : Nat → va_E} {σ : sg} (e : ∀ k, 22 ≤ k → k ≤ 42 → (k < 31 ∨ 36 < k) → r2 k = r k) (h : cs_R dA ad r σ) (hn : cw_e dA ad r2) : cs_R dA ad r2 σ := by
  obtain ⟨ha, hb, hc, hd, he, hf, hp, ht⟩ := h
  exact ⟨cw_a_t (fun k l1 l2 => e k (by omega) (by omega) (by omega)) ha, cw_b_t (fun k l1 l2 => e k (by omega) (by omega) (by omega)) hb, cw_c_t (fun k l1 l2 => e k (by omega) (by omega) (by omega)) hc, cw_d_t (fun k l1 l2 => e k (by omega) (by omega) (by omega)) hd, hn, cw_f_t (fun k l1 l2 => e k (by omega) (by omega) (by omega)) hf, bp_at_t (fun k l1 l2 => e k (by omega) (by omega) (by omega)) hp, te_at_t (fun k l1 l2 => e k (by omega) (by omega) (by omega)) ht⟩
theorem cs_R_f {dA : Nat → ClassId} {ad : Nat → Nat} {r r2 : Nat → va_E} {σ : sg} (e : ∀ k, 22 ≤ k → k ≤ 42 → (k < 42 ∨ 42 < k) → r2 k = r k) (h : cs_R dA ad r σ) (hn : cw_f dA ad r2) : cs_R dA ad r2 σ := by
  obtain ⟨ha, hb, hc, hd, he, hf, hp, ht⟩ := h
  exact ⟨cw_a_t (fun k l1 l2 => e k (by omega) (by omega) (by omega)) ha, cw_b_t (fun k l1 l2 => e k (by omega) (by omega) (by omega)) hb, cw_c_t (fun k l1 l2 => e k (by omega) (by omega) (by omega)) hc, cw_d_t (fun k l1 l2 => e k (by omega) (by omega) (by omega)) hd, cw_e_t (fun k l1 l2 => e k (by omega) (by omega) (by omega)) he, hn, bp_at_t (fun k l1 l2 => e k (by omega) (by omega) (by omega)) hp, te_at_t (fun k l1 l2 => e k (by omega) (by omega) (by omega)) ht⟩
theorem cs_R_p {dA : Nat → ClassId} {ad : Nat → Nat} {r r2 : Nat → va_E} {σ : sg} {P : List (Nat × Nat)} (e : ∀ k, 22 ≤ k → k ≤ 42 → (k < 37 ∨ 39 < k) → r2 k = r k) (h : cs_R dA ad r σ) (hn : bp_at dA ad r2 P) : cs_R dA ad r2 (σ.1, P, σ.2.2) := by
  obtain ⟨ha, hb, hc, hd, he, hf, hp, ht⟩ := h
  exact ⟨cw_a_t (fun k l1 l2 => e k (by omega) (by omega) (by omega)) ha, cw_b_t (fun k l1 l2 => e k (by omega) (by omega) (by omega)) hb, cw_c_t (fun k l1 l2 => e k (by omega) (by omega) (by omega)) hc, cw_d_t (fun k l1 l2 => e k (by omega) (by omega) (by omega)) hd, cw_e_t (fun k l1 l2 => e k (by omega) (by omega) (by omega)) he, cw_f_t (fun k l1 l2 => e k (by omega) (by omega) (by omega)) hf, hn, te_at_t (fun k l1 l2 => e k (by omega) (by omega) (by omega)) ht⟩
theorem cs_R_t {dA : Nat → ClassId} {ad : Nat → Nat} {r r2 : Nat → va_E} {σ : sg} {X : List Nat} (e : ∀ k, 22 ≤ k → k ≤ 42 → (k < 40 ∨ 41 < k) → r2 k = r k) (h : cs_R dA ad r σ) (hn : te_at dA ad r2 X) : cs_R dA ad r2 (σ.1, σ.2.1, X) := by
  obtain ⟨ha, hb, hc, hd, he, hf, hp, ht⟩ := h
  exact ⟨cw_a_t (fun k l1 l2 => e k (by omega) (by omega) (by omega)) ha, cw_b_t (fun k l1 l2 => e k (by omega) (by omega) (by omega)) hb, cw_c_t (fun k l1 l2 => e k (by omega) (by omega) (by omega)) hc, cw_d_t (fun k l1 l2 => e k (by omega) (by omega) (by omega)) hd, cw_e_t (fun k l1 l2 => e k (by omega) (by omega) (by omega)) he, cw_f_t (fun k l1 l2 => e k (by omega) (by omega) (by omega)) hf, bp_at_t (fun k l1 l2 => e k (by omega) (by omega) (by omega)) hp, hn⟩
theorem cs_R_s {dA : Nat → ClassId} {ad : Nat → Nat} {r : Nat → va_E} {σ : sg} {i : Nat} {a : am_T} (h : cs_R dA ad r σ) : cs_R dA ad r (o_set σ i a) := h
/-- a slot's own machine changes -/
theorem cs_m1 {mm : Nat → gm_V} {π : Nat → Nat} {σ : sg} {i : Nat} {M : gm_V} {a : am_T} (hπ : cs_pi π) (hi : i < 4) (hM : ∀ i, i < 4 → gm_is (mm (π i)) (σ.1 i)) (h : gm_is M a) : ∀ j, j < 4 → gm_is ((va_up mm (π i) M) (π j)) ((o_set σ i a).1 j) := by
  intro j hj
  by_cases hji : j = i
  · subst hji
    rw [gm_us]
    show gm_is M (va_up σ.1 j a j)
    rw [gm_us]
    exact h
  · rw [gm_un (fun e => hji (hπ.2 j i (by omega) (by omega) e))]
    show gm_is (mm (π j)) (va_up σ.1 i a j)
    rw [gm_un hji]
    exact hM j hj
/-- the one that is built over changes -/
theorem cs_m4 {mm : Nat → gm_V} {π : Nat → Nat} {σ : sg} {M : gm_V} (hπ : cs_pi π) (hM : ∀ i, i < 4 → gm_is (mm (π i)) (σ.1 i)) : ∀ j, j < 4 → gm_is ((va_up mm (π 4) M) (π j)) (σ.1 j) := by
  intro j hj
  rw [gm_un (fun e => absurd (hπ.2 j 4 (by omega) (by decide) e) (by omega))]
  exact hM j hj
/-- and takes a slot's place -/
theorem cs_m5 {mm : Nat → gm_V} {π : Nat → Nat} {σ : sg} {c : Nat} {M : gm_V} {b : am_T} (hπ : cs_pi π) (hM : ∀ i, i < 4 → gm_is (mm (π i)) (σ.1 i)) (h : gm_is M b) : ∀ j, j < 4 → gm_is ((va_up mm (π 4) M) (cs_sw π c j)) ((o_set σ c b).1 j) := by
  intro j hj
  by_cases hjc : j = c
  · subst hjc
    show gm_is (va_up mm (π 4) M (cs_sw π j j)) (va_up σ.1 j b j)
    unfold cs_sw
    rw [if_pos rfl, gm_us, gm_us]
    exact h
  · show gm_is (va_up mm (π 4) M (cs_sw π c j)) (va_up σ.1 c b j)
    have e1 : cs_sw π c j = π j := by
      unfold cs_sw
      rw [if_neg hjc, if_neg (by omega)]
    rw [e1, gm_un hjc]
    exact cs_m4 hπ hM j hj
