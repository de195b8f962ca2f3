/-! THE CALLS KEEP THE BOUNDS -/
def ar_ok (n : Nat) (l : List (Nat × Nat)) : Prop := l.length ≤ 64 ∧ am_so l ∧ ∀ x ∈ l, x.1 < 16384 ∧ x.1 / 1024 < n ∧ x.1 % 16 < n
theorem ar_ok_nil (n : Nat) : ar_ok n [] := ⟨Nat.zero_le _, List.Pairwise.nil, fun x hx => absurd hx List.not_mem_nil⟩
theorem ar_ok_mono {n m : Nat} {l : List (Nat × Nat)} (h : ar_ok n l) (hm : n ≤ m) : ar_ok m l := ⟨h.1, h.2.1, fun x hx => by
  have := h.2.2 x hx
  omega⟩
theorem ar_ok_in {n key w : Nat} {l : List (Nat × Nat)} (h : ar_ok n l) (hr : am_rm key l = true) (h1 : key < 16384) (h2 : key / 1024 < n) (h3 : key % 16 < n) : ar_ok n (am_in key w l) :=
  ⟨am_in_len hr h.1, am_in_so h.2.1, fun x hx => by
    rcases am_in_mem hx with hx | ⟨hx, -⟩
    · exact h.2.2 x hx
    · rw [hx]
      exact ⟨h1, h2, h3⟩⟩
theorem ar_ok_br {n : Nat} {x : Nat × Nat} {l : List (Nat × Nat)} (h : ar_ok n l) (h1 : x.1 < 16384) (h2 : x.1 / 1024 < n) (h3 : x.1 % 16 < n) : ar_ok n (mk_br l x) := by
  unfold mk_br
  split
  · rename_i hr
    exact ar_ok_in h hr h1 h2 h3
  · exact h
theorem ar_ok_brs {n : Nat} : ∀ (I l : List (Nat × Nat)), ar_ok n l → (∀ x ∈ I, x.1 < 16384 ∧ x.1 / 1024 < n ∧ x.1 % 16 < n) → ar_ok n (I.foldl mk_br l)
  | [], l, h, _ => h
  | x :: I, l, h, hI => by
    have hx := hI x List.mem_cons_self
    exact ar_ok_brs I _ (ar_ok_br h hx.1 hx.2.1 hx.2.2) (fun y hy => hI y (List.mem_cons_of_mem _ hy))
def am_pre (b : am_T) : Prop := am_n b ≤ 16 ∧ ar_ok (am_n b) (am_ar b) ∧ (∀ x, am_st b = some x → x.1 < am_n b) ∧ ∀ q, am_n b ≤ q → am_en b q = none
theorem am_fe_of {f : Nat → Option Nat} : ∀ n, am_fe f n = true → ∀ q, q < n → ∀ e, f q = some e → e ≤ 1000000000
  | 0, _, q, hq => absurd hq (Nat.not_lt_zero _)
  | n + 1, h, q, hq => by
    unfold am_fe at h
    rw [Bool.and_eq_true] at h
    rcases Nat.lt_succ_iff_lt_or_eq.mp hq with hq | rfl
    · exact am_fe_of n h.1 q hq
    · intro e he
      have h2 := h.2
      rw [he] at h2
      exact of_decide_eq_true h2
theorem am_fe_to {f : Nat → Option Nat} : ∀ n, (∀ q, q < n → ∀ e, f q = some e → e ≤ 1000000000) → am_fe f n = true
  | 0, _ => rfl
  | n + 1, h => by
    unfold am_fe
    rw [am_fe_to n (fun q hq => h q (by omega)), Bool.true_and]
    cases he : f n with
    | none => rfl
    | some e => exact decide_eq_true (h n (by omega) e he)
theorem am_ok_of {b : am_T} (h : am_pre b) (hf : am_fit b = true) : am_ok b := by
  unfold am_fit at hf
  rw [Bool.and_eq_true, Bool.and_eq_true] at hf
  obtain ⟨⟨h1, h2⟩, h3⟩ := hf
  have h1 := of_decide_eq_true h1
  refine ⟨⟨h.1, h.2.1.1, fun x hx => ⟨(h.2.1.2.2 x hx).1, ?_⟩, fun q e he => ?_, fun x hx => ⟨?_, ?_⟩⟩, h.2.1.2.1, fun x hx => (h.2.1.2.2 x hx).2, h.2.2.1, h.2.2.2⟩
  · unfold am_fa at h3
    rw [List.take_length, List.all_eq_true] at h3
    have := of_decide_eq_true (h3 x hx)
    omega
  · by_cases hq : q < am_n b
    · have := am_fe_of _ h2 q hq e he
      omega
    · rw [h.2.2.2 q (by omega)] at he
      cases he
  · have := h.2.2.1 x hx
    have := h.1
    omega
  · unfold am_sw at h1
    rw [hx] at h1
    have h1 : x.2 ≤ 1000000000 := h1
    omega
theorem am_fit_of {b : am_T} (h1 : ∀ x, am_st b = some x → x.2 ≤ 1000000000) (h2 : ∀ q e, am_en b q = some e → e ≤ 1000000000) (h3 : ∀ x ∈ am_ar b, x.2 ≤ 1000000000) : am_fit b = true := by
  unfold am_fit
  rw [am_fe_to _ (fun q _ e he => h2 q e he)]
  have hs : am_sw b ≤ 1000000000 := by
    unfold am_sw
    cases hst : am_st b with
    | none => exact Nat.zero_le _
    | some x => exact h1 x hst
  have ha : am_fa (am_ar b) (am_ar b).length = true := by
    unfold am_fa
    rw [List.take_length, List.all_eq_true]
    intro x hx
    exact decide_eq_true (h3 x hx)
  rw [ha, decide_eq_true hs]
  rfl
theorem sg_ok_set {σ : sg} {i : Nat} {a : am_T} (h : sg_ok σ) (ha : am_ok a) : sg_ok (o_set σ i a) := by
  refine ⟨fun j hj => ?_, h.2⟩
  show am_ok (va_up σ.1 i a j)
  by_cases hji : j = i
  · rw [hji, gm_us]; exact ha
  · rw [gm_un hji]; exact h.1 j hj
theorem sg_ok_keep {σ : sg} {c : Nat} {o : Option am_T} {g : am_T → Nat} (h : sg_ok σ) (ho : ∀ b, o = some b → am_pre b) : sg_ok (o_keep σ c o g).2 := by
  unfold o_keep
  cases o with
  | none => exact h
  | some b =>
    show sg_ok (if am_fit b = true then (nI (g b), o_set σ c b) else (-2, σ)).2
    split
    · rename_i hf
      exact sg_ok_set h (am_ok_of (ho b rfl) hf)
    · exact h
theorem am_pre_0 {m : Nat} (h : m ≤ 16) : am_pre (m, none, (fun _ => none), []) := ⟨h, ar_ok_nil _, fun x hx => (by cases hx), fun _ _ => rfl⟩
theorem am_ok_0 {m : Nat} (h : m ≤ 16) : am_ok (m, none, (fun _ => none), []) := am_ok_of (am_pre_0 h) (am_fit_of (fun x hx => by cases hx) (fun q e he => by cases he) (fun x hx => absurd hx List.not_mem_nil))
-- compose
theorem co_fd_le {t : co_t} {T : List co_t} {y : Nat × List co_t} (h : co_fd t T = some y) (hT : T.length ≤ 16) : y.1 < y.2.length ∧ y.2.length ≤ 16 ∧ T.length ≤ y.2.length := by
  unfold co_fd at h
  split at h
  · rename_i k hk
    cases h
    have := (List.findIdx?_eq_some_iff_getElem.mp hk).1
    exact ⟨this, hT, Nat.le_refl _⟩
  · split at h
    · cases h
      rw [List.length_append]
      exact ⟨by show T.length < T.length + 1; omega, by show T.length + 1 ≤ 16; omega, by show T.length ≤ T.length + 1; omega⟩
    · cases h
def co_good (c : co_S) : Prop := c.1.length ≤ 16 ∧ ar_ok c.1.length c.2
theorem co_br_good {s : Nat} {c c2 : co_S} {x : co_I} (h : co_br s c x = some c2) (hc : co_good c) (hs : s < c.1.length) (hx : x.1 < 64) : co_good c2 ∧ c.1.length ≤ c2.1.length := by
  unfold co_br at h
  cases hf : co_fd x.2.2 c.1 with
  | none => rw [hf] at h; cases h
  | some y =>
    rw [hf] at h
    have h : (if am_rm (s * 1024 + x.1 * 16 + y.1) c.2 = true then some (y.2, am_in (s * 1024 + x.1 * 16 + y.1) x.2.1 c.2) else none) = some c2 := h
    obtain ⟨h1, h2, h3⟩ := co_fd_le hf hc.1
    split at h
    · rename_i hr
      cases h
      exact ⟨⟨h2, ar_ok_in (n := y.2.length) (ar_ok_mono hc.2 h3) hr (by omega) (by omega) (by omega)⟩, h3⟩
    · cases h
theorem co_run_good {s : Nat} : ∀ {I : List co_I} {c c2 : co_S}, co_run s I c = some c2 → co_good c → s < c.1.length → (∀ x ∈ I, x.1 < 64) → co_good c2 ∧ c.1.length ≤ c2.1.length
  | [], c, c2, h, hc, _, _ => by
    cases h
    exact ⟨hc, Nat.le_refl _⟩
  | x :: I, c, c2, h, hc, hs, hI => by
    unfold co_run at h
    cases hb : co_br s c x with
    | none => rw [hb] at h; cases h
    | some c3 =>
      rw [hb] at h
      obtain ⟨h1, h2⟩ := co_br_good hb hc hs (hI x List.mem_cons_self)
      obtain ⟨h3, h4⟩ := co_run_good (I := I) h h1 (by omega) (fun y hy => hI y (List.mem_cons_of_mem _ hy))
      exact ⟨h3, by omega⟩
theorem co_items_lt {la lb : List (Nat × Nat)} {t : co_t} : ∀ x ∈ co_items la lb t, x.1 < 64 := by
  intro x hx
  have hboth : ∀ e, x ∈ co_both la lb t.1 t.2.1 e → x.1 < 64 := fun e he => by
    unfold co_both at he
    obtain ⟨y, -, hy⟩ := List.mem_flatMap.mp he
    unfold co_bx at hy
    split at hy
    · obtain ⟨z, -, rfl⟩ := List.mem_map.mp hy
      show 8 * (y.1 / 128 % 8) + z.1 / 16 % 8 < 64
      omega
    · exact absurd hy List.not_mem_nil
  unfold co_items at hx
  rcases List.mem_append.mp hx with hx | hx
  · exact hboth _ hx
  rcases List.mem_append.mp hx with hx | hx
  · split at hx
    · exact hboth _ hx
    · exact absurd hx List.not_mem_nil
  rcases List.mem_append.mp hx with hx | hx
  · split at hx
    · exact absurd hx List.not_mem_nil
    · unfold co_first at hx
      obtain ⟨y, -, hy⟩ := List.mem_flatMap.mp hx
      unfold co_f1 at hy
      split at hy
      · rw [List.mem_singleton.mp hy]
        show 8 * (y.1 / 128 % 8) + 0 < 64
        omega
      · exact absurd hy List.not_mem_nil
  · split at hx
    · exact absurd hx List.not_mem_nil
    · unfold co_second at hx
      obtain ⟨y, -, rfl⟩ := List.mem_map.mp hx
      show 8 * 0 + y.1 / 16 % 8 < 64
      omega
theorem co_ex_good {la lb : List (Nat × Nat)} : ∀ (m s : Nat) {c c2 : co_S}, co_ex la lb m s c = some c2 → co_good c → co_good c2 ∧ c.1.length ≤ c2.1.length
  | 0, s, c, c2, h, hc => by
    cases h
    exact ⟨hc, Nat.le_refl _⟩
  | m + 1, s, c, c2, h, hc => by
    unfold co_ex at h
    cases ht : c.1[s]? with
    | none =>
      rw [ht] at h
      cases h
      exact ⟨hc, Nat.le_refl _⟩
    | some t =>
      rw [ht] at h
      have h : (match co_run s (co_items la lb t) c with | none => none | some c2 => co_ex la lb m (s + 1) c2) = some c2 := h
      cases hr : co_run s (co_items la lb t) c with
      | none => rw [hr] at h; cases h
      | some c3 =>
        rw [hr] at h
        obtain ⟨h1, h2⟩ := co_run_good hr hc (List.getElem?_eq_some_iff.mp ht).1 co_items_lt
        obtain ⟨h3, h4⟩ := co_ex_good m (s + 1) h h1
        exact ⟨h3, by omega⟩
theorem co_mk_pre {a b m : am_T} (h : co_mk a b = some m) : am_pre m := by
  unfold co_mk at h
  cases ha : am_st a with
  | none =>
    rw [ha] at h
    cases h
    exact am_pre_0 (by decide)
  | some x =>
    rw [ha] at h
    cases hb : am_st b with
    | none =>
      rw [hb] at h
      cases h
      exact am_pre_0 (by decide)
    | some y =>
      rw [hb] at h
      have h : (match co_ex (am_ar a) (am_ar b) 16 0 ([(x.1, y.1, 0)], []) with | none => none | some c => some (c.1.length, some (0, x.2 + y.2), co_es a b c.1 c.1.length, c.2)) = some m := h
      cases hc : co_ex (am_ar a) (am_ar b) 16 0 ([(x.1, y.1, 0)], []) with
      | none => rw [hc] at h; cases h
      | some c =>
        rw [hc] at h
        cases h
        obtain ⟨h1, h2⟩ := co_ex_good 16 0 hc ⟨Nat.le_of_ble_eq_true rfl, ar_ok_nil _⟩
        refine ⟨h1.1, h1.2, fun z hz => ?_, fun q hq => ?_⟩
        · cases hz
          exact h2
        · show co_es a b c.1 c.1.length q = none
          unfold co_es
          exact if_neg (by have hq : c.1.length ≤ q := hq; omega)
-- determine
theorem de_fd_le {u : ls_V} {T : List ls_V} {y : Nat × List ls_V} (h : de_fd u T = some y) (hT : T.length ≤ 16) : y.1 < y.2.length ∧ y.2.length ≤ 16 ∧ T.length ≤ y.2.length := by
  unfold de_fd at h
  split at h
  · rename_i k hk
    cases h
    have := (List.findIdx?_eq_some_iff_getElem.mp hk).1
    exact ⟨this, hT, Nat.le_refl _⟩
  · split at h
    · cases h
      rw [List.length_append]
      exact ⟨by show T.length < T.length + 1; omega, by show T.length + 1 ≤ 16; omega, by show T.length ≤ T.length + 1; omega⟩
    · cases h
def de_good (c : de_S) : Prop := c.1.length ≤ 16 ∧ ar_ok c.1.length c.2
theorem de_lv_good {l : List (Nat × Nat)} {s label : Nat} {v : ls_V} {c c2 : de_S} (h : de_lv l s label v c = some c2) (hc : de_good c) (hs : s < c.1.length) (hl : label < 8) : de_good c2 ∧ c.1.length ≤ c2.1.length := by
  unfold de_lv at h
  cases hw : (de_su l v label).2 with
  | none =>
    rw [hw] at h
    cases h
    exact ⟨hc, Nat.le_refl _⟩
  | some w =>
    rw [hw] at h
    have h : (match de_fd (de_row (de_su l v label).1 w) c.1 with | none => none | some y => if am_rm (s * 1024 + (8 * label + label) * 16 + y.1) c.2 = true then some (y.2, am_in (s * 1024 + (8 * label + label) * 16 + y.1) w c.2) else none) = some c2 := h
    cases hf : de_fd (de_row (de_su l v label).1 w) c.1 with
    | none => rw [hf] at h; cases h
    | some y =>
      rw [hf] at h
      have h : (if am_rm (s * 1024 + (8 * label + label) * 16 + y.1) c.2 = true then some (y.2, am_in (s * 1024 + (8 * label + label) * 16 + y.1) w c.2) else none) = some c2 := h
      obtain ⟨h1, h2, h3⟩ := de_fd_le hf hc.1
      split at h
      · rename_i hr
        cases h
        exact ⟨⟨h2, ar_ok_in (n := y.2.length) (ar_ok_mono hc.2 h3) hr (by omega) (by omega) (by omega)⟩, h3⟩
      · cases h
theorem de_run_good {l : List (Nat × Nat)} {s : Nat} {v : ls_V} : ∀ (m label : Nat) {c c2 : de_S}, de_run l s v m label c = some c2 → de_good c → s < c.1.length → label + m ≤ 8 → de_good c2 ∧ c.1.length ≤ c2.1.length
  | 0, label, c, c2, h, hc, _, _ => by
    cases h
    exact ⟨hc, Nat.le_refl _⟩
  | m + 1, label, c, c2, h, hc, hs, hl => by
    unfold de_run at h
    cases hb : de_lv l s label v c with
    | none => rw [hb] at h; cases h
    | some c3 =>
      rw [hb] at h
      obtain ⟨h1, h2⟩ := de_lv_good hb hc hs (by omega)
      obtain ⟨h3, h4⟩ := de_run_good m (label + 1) h h1 (by omega) (by omega)
      exact ⟨h3, by omega⟩
theorem de_ex_good {l : List (Nat × Nat)} : ∀ (m s : Nat) {c c2 : de_S}, de_ex l m s c = some c2 → de_good c → de_good c2 ∧ c.1.length ≤ c2.1.length
  | 0, s, c, c2, h, hc => by
    cases h
    exact ⟨hc, Nat.le_refl _⟩
  | m + 1, s, c, c2, h, hc => by
    unfold de_ex at h
    cases ht : c.1[s]? with
    | none =>
      rw [ht] at h
      cases h
      exact ⟨hc, Nat.le_refl _⟩
    | some t =>
      rw [ht] at h
      have h : (match de_run l s t 7 1 c with | none => none | some c2 => de_ex l m (s + 1) c2) = some c2 := h
      cases hr : de_run l s t 7 1 c with
      | none => rw [hr] at h; cases h
      | some c3 =>
        rw [hr] at h
        obtain ⟨h1, h2⟩ := de_run_good 7 1 hr hc (List.getElem?_eq_some_iff.mp ht).1 (by decide)
        obtain ⟨h3, h4⟩ := de_ex_good m (s + 1) h h1
        exact ⟨h3, by omega⟩
theorem de_mk_pre {a m : am_T} (h : de_mk a = some m) : am_pre m := by
  unfold de_mk at h
  cases ha : am_st a with
  | none =>
    rw [ha] at h
    cases h
    exact am_pre_0 (by decide)
  | some x =>
    rw [ha] at h
    have h : (match de_ex (am_ar a) 16 0 ([ba_v x.1], []) with | none => none | some c => some (c.1.length, some (0, x.2), de_es a c.1 c.1.length, c.2)) = some m := h
    cases hc : de_ex (am_ar a) 16 0 ([ba_v x.1], []) with
    | none => rw [hc] at h; cases h
    | some c =>
      rw [hc] at h
      cases h
      obtain ⟨h1, h2⟩ := de_ex_good 16 0 hc ⟨Nat.le_of_ble_eq_true rfl, ar_ok_nil _⟩
      refine ⟨h1.1, h1.2, fun z hz => ?_, fun q hq => ?_⟩
      · cases hz
        exact h2
      · show de_es a c.1 c.1.length q = none
        unfold de_es
        exact if_neg (by have hq : c.1.length ≤ q := hq; omega)
-- bare
theorem mk_run_ok {n : Nat} : ∀ (I : List (Nat × Nat)) {l l2 : List (Nat × Nat)}, mk_run I l = some l2 → ar_ok n l → (∀ x ∈ I, x.1 < 16384 ∧ x.1 / 1024 < n ∧ x.1 % 16 < n) → ar_ok n l2
  | [], l, l2, h, hl, _ => by
    cases h
    exact hl
  | x :: I, l, l2, h, hl, hI => by
    unfold mk_run at h
    split at h
    · rename_i hr
      have hx := hI x List.mem_cons_self
      exact mk_run_ok I h (ar_ok_in hl hr hx.1 hx.2.1 hx.2.2) (fun y hy => hI y (List.mem_cons_of_mem _ hy))
    · cases h
theorem ba_it_ok {l : List (Nat × Nat)} {v : ls_V} {p n : Nat} (hn : n ≤ 16) (hl : ∀ x ∈ l, x.1 < 16384 ∧ x.1 % 16 < n) (hp : p < n) : ∀ x ∈ ba_it l v p, x.1 < 16384 ∧ x.1 / 1024 < n ∧ x.1 % 16 < n := by
  intro x hx
  unfold ba_it at hx
  obtain ⟨y, hy, hx⟩ := List.mem_flatMap.mp hx
  have hyl := hl y hy
  unfold ba_i at hx
  split at hx
  · exact absurd hx List.not_mem_nil
  · split at hx
    · exact absurd hx List.not_mem_nil
    · rw [List.mem_singleton.mp hx]
      refine ⟨?_, ?_, ?_⟩
      · show p * 1024 + y.1 / 16 % 64 * 16 + y.1 % 16 < 16384; omega
      · show (p * 1024 + y.1 / 16 % 64 * 16 + y.1 % 16) / 1024 < n; omega
      · show (p * 1024 + y.1 / 16 % 64 * 16 + y.1 % 16) % 16 < n; omega
theorem ba_ex_ok {l : List (Nat × Nat)} {n : Nat} (hn : n ≤ 16) (hl : ∀ x ∈ l, x.1 < 16384 ∧ x.1 % 16 < n) : ∀ (m p : Nat) {ar ar2 : List (Nat × Nat)}, ba_ex l m p ar = some ar2 → p + m ≤ n → ar_ok n ar → ar_ok n ar2
  | 0, p, ar, ar2, h, _, ho => by
    cases h
    exact ho
  | m + 1, p, ar, ar2, h, hp, ho => by
    unfold ba_ex at h
    cases hr : mk_run (ba_it l (ba_nr l p) p) ar with
    | none => rw [hr] at h; cases h
    | some ar3 =>
      rw [hr] at h
      exact ba_ex_ok hn hl m (p + 1) h (by omega) (mk_run_ok _ hr ho (ba_it_ok hn hl (by omega)))
theorem ba_mk_pre {a m : am_T} (ha : am_ok a) (h : ba_mk a = some m) : am_pre m := by
  unfold ba_mk at h
  cases hc : ba_ex (am_ar a) (am_n a) 0 [] with
  | none => rw [hc] at h; cases h
  | some ar =>
    rw [hc] at h
    cases h
    refine ⟨ha.1.1, ba_ex_ok ha.1.1 (fun x hx => ⟨(ha.1.2.2.1 x hx).1, (ha.2.2.1 x hx).2⟩) (am_n a) 0 hc (by omega) (ar_ok_nil _), ha.2.2.2.1, fun q hq => ?_⟩
    show ba_es a (am_n a) q = none
    unfold ba_es
    exact if_neg (by have hq : am_n a ≤ q := hq; omega)
-- push
theorem pu_mk_pre {a : am_T} {nv : ls_V} (ha : am_ok a) : am_pre (pu_mk a nv) := by
  refine ⟨ha.1.1, ?_, fun x hx => ?_, fun q hq => ?_⟩
  · show ar_ok (am_n a) (pu_ar nv (am_ar a) (am_ar a).length)
    unfold pu_ar
    refine ar_ok_brs _ _ (ar_ok_nil _) (fun x hx => ?_)
    obtain ⟨y, hy, hx⟩ := List.mem_filterMap.mp hx
    have hy := List.mem_of_mem_take hy
    unfold pu_i at hx
    split at hx
    · cases hx
      exact ⟨(ha.1.2.2.1 y hy).1, ha.2.2.1 y hy⟩
    · cases hx
  · have hx : pu_st a nv = some x := hx
    unfold pu_st at hx
    cases hs : am_st a with
    | none => rw [hs] at hx; cases hx
    | some y =>
      rw [hs] at hx
      cases hx
      exact ha.2.2.2.1 y hs
  · show pu_es a nv (am_n a) q = none
    unfold pu_es
    exact if_neg (by have hq : am_n a ≤ q := hq; omega)
-- trim
theorem tr_start {a : am_T} {s : Nat × Nat} (hl : ∀ x ∈ am_ar a, x.1 < 16384) (hs : am_st a = some s) (h : ¬ pc_P (tr_P a) 16 = 0) : tr_P a s.1 = true := by
  have hfa := tr_a_fix hl
  have hfb := tr_b_fix hl
  have hsa : (tr_a a s.1).isSome = true := by
    obtain ⟨x, hx, -⟩ := hfa.1 s.1 0 (by unfold am_v0; rw [hs]; simp)
    rw [hx]; rfl
  unfold tr_P
  rw [hsa, Bool.true_and]
  rcases hb : tr_b a s.1 with _ | z
  · exfalso
    apply h
    have hY := hfa.2.2 (fun q => if (tr_b a q).isSome = true then none else some 0) (fun q y hy => by
      unfold am_v0 at hy
      rw [hs] at hy
      have hy : (if q = s.1 then some 0 else none) = some y := hy
      by_cases hq : q = s.1
      · refine ⟨0, ?_, Nat.zero_le _⟩
        show (if (tr_b a q).isSome = true then none else some 0) = some 0
        rw [hq, hb]
        rfl
      · rw [if_neg hq] at hy
        cases hy) (fun e he y hy => by
      obtain ⟨x, hx, rfl⟩ := List.mem_map.mp he
      have hcl := hfb.2.1 (am_xb x) (List.mem_map_of_mem hx)
      have hcl : ls_le (tr_b a (x.1 / 1024)) (ls_ad (tr_b a (x.1 % 16)) 0) := hcl
      have hy : ls_ad (if (tr_b a (x.1 / 1024)).isSome = true then none else some 0) 0 = some y := hy
      show ∃ u, (if (tr_b a (x.1 % 16)).isSome = true then none else some 0) = some u ∧ u ≤ y
      rcases hbt : tr_b a (x.1 % 16) with _ | d
      · exact ⟨0, rfl, Nat.zero_le _⟩
      · exfalso
        obtain ⟨c, hc, -⟩ := hcl (d + 0) (by rw [hbt]; rfl)
        rw [hc] at hy
        cases hy)
    have hz : ∀ q, tr_P a q = false := fun q => by
      unfold tr_P
      rcases ha : tr_a a q with _ | c
      · rfl
      · obtain ⟨u, hu, -⟩ := hY q c ha
        have hu : (if (tr_b a q).isSome = true then none else some 0) = some u := hu
        split at hu
        · cases hu
        · rename_i hn
          rw [Bool.not_eq_true] at hn
          rw [hn]
          rfl
    have hall : ∀ n, pc_P (tr_P a) n = 0 := fun n => by
      induction n with
      | zero => rfl
      | succ n ih =>
        show pc_P (tr_P a) n + (tr_P a n).toNat = 0
        rw [ih, hz n]
        rfl
    exact hall 16
  · rfl
theorem tr_mk_pre {a : am_T} (ha : am_ok a) : am_pre (tr_mk a (tr_P a)) := by
  have hl : ∀ x ∈ am_ar a, x.1 < 16384 := fun x hx => (ha.1.2.2.1 x hx).1
  refine ⟨pc_P_le _ 16, ?_, fun x hx => ?_, fun q hq => ?_⟩
  · show ar_ok (pc_P (tr_P a) 16) (tr_ar (tr_P a) (am_ar a) (am_ar a).length)
    unfold tr_ar
    refine ar_ok_brs _ _ (ar_ok_nil _) (fun x hx => ?_)
    obtain ⟨y, hy, hx⟩ := List.mem_filterMap.mp hx
    have hy := List.mem_of_mem_take hy
    have hyn := hl y hy
    unfold tr_i at hx
    split at hx
    · rename_i hp
      rw [Bool.and_eq_true] at hp
      cases hx
      have h1 := pc_P_lt (n := 16) hp.1 (by omega)
      have h2 := pc_P_lt (n := 16) hp.2 (by omega)
      have h3 := pc_P_le (tr_P a) 16
      refine ⟨?_, ?_, ?_⟩
      · show pc_P (tr_P a) (y.1 / 1024) * 1024 + y.1 / 16 % 64 * 16 + pc_P (tr_P a) (y.1 % 16) < 16384; omega
      · show (pc_P (tr_P a) (y.1 / 1024) * 1024 + y.1 / 16 % 64 * 16 + pc_P (tr_P a) (y.1 % 16)) / 1024 < _; omega
      · show (pc_P (tr_P a) (y.1 / 1024) * 1024 + y.1 / 16 % 64 * 16 + pc_P (tr_P a) (y.1 % 16)) % 16 < _; omega
    · cases hx
  · have hx : tr_st a (tr_P a) = some x := hx
    unfold tr_st at hx
    split at hx
    · cases hx
    · rename_i hp
      cases hs : am_st a with
      | none => rw [hs] at hx; cases hx
      | some s =>
        rw [hs] at hx
        cases hx
        have := (ha.1.2.2.2.2 s hs).1
        exact pc_P_lt (n := 16) (tr_start hl hs hp) this
  · have hes : ∀ k, k ≤ 16 → ∀ q, pc_P (tr_P a) 16 ≤ q → tr_es a (tr_P a) k q = none := fun k => by
      induction k with
      | zero => intro _ q _; rfl
      | succ k ih =>
        intro hk q hq
        cases hp : tr_P a k with
        | false => rw [tr_es_n hp]; exact ih (by omega) q hq
        | true =>
          have := pc_P_lt (n := 16) hp (by omega)
          rw [tr_es_y hp, gm_un (by omega)]
          exact ih (by omega) q hq
    exact hes (am_n a) ha.1.1 q hq
