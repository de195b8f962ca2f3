theorem dd_WM_buildTrimmed_0 : decode cc_WM_buildTrimmed 0 = .ok (.aload_n 1, 1) := by decide +kernel
theorem dd_WM_buildTrimmed_1 : decode cc_WM_buildTrimmed 1 = .ok (.invokevirtual 223, 3) := by decide +kernel
theorem dd_WM_buildTrimmed_4 : decode cc_WM_buildTrimmed 4 = .ok (.aload_n 1, 1) := by decide +kernel
theorem dd_WM_buildTrimmed_5 : decode cc_WM_buildTrimmed 5 = .ok (.invokevirtual 226, 3) := by decide +kernel
theorem dd_WM_buildTrimmed_8 : decode cc_WM_buildTrimmed 8 = .ok (.iand, 1) := by decide +kernel
theorem dd_WM_buildTrimmed_9 : decode cc_WM_buildTrimmed 9 = .ok (.istore_n 2, 1) := by decide +kernel
theorem dd_WM_buildTrimmed_10 : decode cc_WM_buildTrimmed 10 = .ok (.aload_n 0, 1) := by decide +kernel
theorem dd_WM_buildTrimmed_11 : decode cc_WM_buildTrimmed 11 = .ok (.getfield 16, 3) := by decide +kernel
theorem dd_WM_buildTrimmed_14 : decode cc_WM_buildTrimmed 14 = .ok (.iload_n 2, 1) := by decide +kernel
theorem dd_WM_buildTrimmed_15 : decode cc_WM_buildTrimmed 15 = .ok (.invokestatic 229, 3) := by decide +kernel
theorem dd_WM_buildTrimmed_18 : decode cc_WM_buildTrimmed 18 = .ok (.invokevirtual 80, 3) := by decide +kernel
theorem dd_WM_buildTrimmed_21 : decode cc_WM_buildTrimmed 21 = .ok (.iconst 0, 1) := by decide +kernel
theorem dd_WM_buildTrimmed_22 : decode cc_WM_buildTrimmed 22 = .ok (.istore_n 3, 1) := by decide +kernel
theorem dd_WM_buildTrimmed_23 : decode cc_WM_buildTrimmed 23 = .ok (.iload_n 3, 1) := by decide +kernel
theorem dd_WM_buildTrimmed_24 : decode cc_WM_buildTrimmed 24 = .ok (.aload_n 1, 1) := by decide +kernel
theorem dd_WM_buildTrimmed_25 : decode cc_WM_buildTrimmed 25 = .ok (.getfield 120, 3) := by decide +kernel
theorem dd_WM_buildTrimmed_28 : decode cc_WM_buildTrimmed 28 = .ok (.if_icmp .ge 36, 3) := by decide +kernel
theorem dd_WM_buildTrimmed_31 : decode cc_WM_buildTrimmed 31 = .ok (.iload_n 2, 1) := by decide +kernel
theorem dd_WM_buildTrimmed_32 : decode cc_WM_buildTrimmed 32 = .ok (.iload_n 3, 1) := by decide +kernel
theorem dd_WM_buildTrimmed_33 : decode cc_WM_buildTrimmed 33 = .ok (.invokestatic 234, 3) := by decide +kernel
theorem dd_WM_buildTrimmed_36 : decode cc_WM_buildTrimmed 36 = .ok (.ifCond .eq 22, 3) := by decide +kernel
theorem dd_WM_buildTrimmed_39 : decode cc_WM_buildTrimmed 39 = .ok (.aload_n 0, 1) := by decide +kernel
theorem dd_WM_buildTrimmed_40 : decode cc_WM_buildTrimmed 40 = .ok (.getfield 16, 3) := by decide +kernel
theorem dd_WM_buildTrimmed_43 : decode cc_WM_buildTrimmed 43 = .ok (.getfield 96, 3) := by decide +kernel
theorem dd_WM_buildTrimmed_46 : decode cc_WM_buildTrimmed 46 = .ok (.iload_n 2, 1) := by decide +kernel
theorem dd_WM_buildTrimmed_47 : decode cc_WM_buildTrimmed 47 = .ok (.iload_n 3, 1) := by decide +kernel
theorem dd_WM_buildTrimmed_48 : decode cc_WM_buildTrimmed 48 = .ok (.invokestatic 237, 3) := by decide +kernel
theorem dd_WM_buildTrimmed_51 : decode cc_WM_buildTrimmed 51 = .ok (.aload_n 1, 1) := by decide +kernel
theorem dd_WM_buildTrimmed_52 : decode cc_WM_buildTrimmed 52 = .ok (.getfield 96, 3) := by decide +kernel
theorem dd_WM_buildTrimmed_55 : decode cc_WM_buildTrimmed 55 = .ok (.iload_n 3, 1) := by decide +kernel
theorem dd_WM_buildTrimmed_56 : decode cc_WM_buildTrimmed 56 = .ok (.laload, 1) := by decide +kernel
theorem dd_WM_buildTrimmed_57 : decode cc_WM_buildTrimmed 57 = .ok (.lastore, 1) := by decide +kernel
theorem dd_WM_buildTrimmed_58 : decode cc_WM_buildTrimmed 58 = .ok (.iinc 3 1, 3) := by decide +kernel
theorem dd_WM_buildTrimmed_61 : decode cc_WM_buildTrimmed 61 = .ok (.goto (-38), 3) := by decide +kernel
theorem dd_WM_buildTrimmed_64 : decode cc_WM_buildTrimmed 64 = .ok (.iload_n 2, 1) := by decide +kernel
theorem dd_WM_buildTrimmed_65 : decode cc_WM_buildTrimmed 65 = .ok (.ifCond .eq 22, 3) := by decide +kernel
theorem dd_WM_buildTrimmed_68 : decode cc_WM_buildTrimmed 68 = .ok (.aload_n 0, 1) := by decide +kernel
theorem dd_WM_buildTrimmed_69 : decode cc_WM_buildTrimmed 69 = .ok (.getfield 16, 3) := by decide +kernel
theorem dd_WM_buildTrimmed_72 : decode cc_WM_buildTrimmed 72 = .ok (.iload_n 2, 1) := by decide +kernel
theorem dd_WM_buildTrimmed_73 : decode cc_WM_buildTrimmed 73 = .ok (.aload_n 1, 1) := by decide +kernel
theorem dd_WM_buildTrimmed_74 : decode cc_WM_buildTrimmed 74 = .ok (.getfield 150, 3) := by decide +kernel
theorem dd_WM_buildTrimmed_77 : decode cc_WM_buildTrimmed 77 = .ok (.invokestatic 237, 3) := by decide +kernel
theorem dd_WM_buildTrimmed_80 : decode cc_WM_buildTrimmed 80 = .ok (.aload_n 1, 1) := by decide +kernel
theorem dd_WM_buildTrimmed_81 : decode cc_WM_buildTrimmed 81 = .ok (.getfield 160, 3) := by decide +kernel
theorem dd_WM_buildTrimmed_84 : decode cc_WM_buildTrimmed 84 = .ok (.invokevirtual 92, 3) := by decide +kernel
theorem dd_WM_buildTrimmed_87 : decode cc_WM_buildTrimmed 87 = .ok (.iconst 0, 1) := by decide +kernel
theorem dd_WM_buildTrimmed_88 : decode cc_WM_buildTrimmed 88 = .ok (.istore_n 3, 1) := by decide +kernel
theorem dd_WM_buildTrimmed_89 : decode cc_WM_buildTrimmed 89 = .ok (.iload_n 3, 1) := by decide +kernel
theorem dd_WM_buildTrimmed_90 : decode cc_WM_buildTrimmed 90 = .ok (.aload_n 1, 1) := by decide +kernel
theorem dd_WM_buildTrimmed_91 : decode cc_WM_buildTrimmed 91 = .ok (.getfield 108, 3) := by decide +kernel
theorem dd_WM_buildTrimmed_94 : decode cc_WM_buildTrimmed 94 = .ok (.if_icmp .ge 91, 3) := by decide +kernel
theorem dd_WM_buildTrimmed_97 : decode cc_WM_buildTrimmed 97 = .ok (.aload_n 1, 1) := by decide +kernel
theorem dd_WM_buildTrimmed_98 : decode cc_WM_buildTrimmed 98 = .ok (.getfield 186, 3) := by decide +kernel
theorem dd_WM_buildTrimmed_101 : decode cc_WM_buildTrimmed 101 = .ok (.iload_n 3, 1) := by decide +kernel
theorem dd_WM_buildTrimmed_102 : decode cc_WM_buildTrimmed 102 = .ok (.iaload, 1) := by decide +kernel
theorem dd_WM_buildTrimmed_103 : decode cc_WM_buildTrimmed 103 = .ok (.invokestatic 217, 3) := by decide +kernel
theorem dd_WM_buildTrimmed_106 : decode cc_WM_buildTrimmed 106 = .ok (.istore 4, 2) := by decide +kernel
theorem dd_WM_buildTrimmed_108 : decode cc_WM_buildTrimmed 108 = .ok (.aload_n 1, 1) := by decide +kernel
theorem dd_WM_buildTrimmed_109 : decode cc_WM_buildTrimmed 109 = .ok (.getfield 186, 3) := by decide +kernel
theorem dd_WM_buildTrimmed_112 : decode cc_WM_buildTrimmed 112 = .ok (.iload_n 3, 1) := by decide +kernel
theorem dd_WM_buildTrimmed_113 : decode cc_WM_buildTrimmed 113 = .ok (.iaload, 1) := by decide +kernel
theorem dd_WM_buildTrimmed_114 : decode cc_WM_buildTrimmed 114 = .ok (.invokestatic 220, 3) := by decide +kernel
theorem dd_WM_buildTrimmed_117 : decode cc_WM_buildTrimmed 117 = .ok (.istore 5, 2) := by decide +kernel
theorem dd_WM_buildTrimmed_119 : decode cc_WM_buildTrimmed 119 = .ok (.iload_n 2, 1) := by decide +kernel
theorem dd_WM_buildTrimmed_120 : decode cc_WM_buildTrimmed 120 = .ok (.iload 4, 2) := by decide +kernel
theorem dd_WM_buildTrimmed_122 : decode cc_WM_buildTrimmed 122 = .ok (.invokestatic 234, 3) := by decide +kernel
theorem dd_WM_buildTrimmed_125 : decode cc_WM_buildTrimmed 125 = .ok (.ifCond .eq 54, 3) := by decide +kernel
theorem dd_WM_buildTrimmed_128 : decode cc_WM_buildTrimmed 128 = .ok (.iload_n 2, 1) := by decide +kernel
theorem dd_WM_buildTrimmed_129 : decode cc_WM_buildTrimmed 129 = .ok (.iload 5, 2) := by decide +kernel
theorem dd_WM_buildTrimmed_131 : decode cc_WM_buildTrimmed 131 = .ok (.invokestatic 234, 3) := by decide +kernel
theorem dd_WM_buildTrimmed_134 : decode cc_WM_buildTrimmed 134 = .ok (.ifCond .eq 45, 3) := by decide +kernel
theorem dd_WM_buildTrimmed_137 : decode cc_WM_buildTrimmed 137 = .ok (.aload_n 1, 1) := by decide +kernel
theorem dd_WM_buildTrimmed_138 : decode cc_WM_buildTrimmed 138 = .ok (.getfield 186, 3) := by decide +kernel
theorem dd_WM_buildTrimmed_141 : decode cc_WM_buildTrimmed 141 = .ok (.iload_n 3, 1) := by decide +kernel
theorem dd_WM_buildTrimmed_142 : decode cc_WM_buildTrimmed 142 = .ok (.iaload, 1) := by decide +kernel
theorem dd_WM_buildTrimmed_143 : decode cc_WM_buildTrimmed 143 = .ok (.invokestatic 241, 3) := by decide +kernel
theorem dd_WM_buildTrimmed_146 : decode cc_WM_buildTrimmed 146 = .ok (.istore 6, 2) := by decide +kernel
theorem dd_WM_buildTrimmed_148 : decode cc_WM_buildTrimmed 148 = .ok (.aload_n 0, 1) := by decide +kernel
theorem dd_WM_buildTrimmed_149 : decode cc_WM_buildTrimmed 149 = .ok (.getfield 16, 3) := by decide +kernel
theorem dd_WM_buildTrimmed_152 : decode cc_WM_buildTrimmed 152 = .ok (.iload_n 2, 1) := by decide +kernel
theorem dd_WM_buildTrimmed_153 : decode cc_WM_buildTrimmed 153 = .ok (.iload 4, 2) := by decide +kernel
theorem dd_WM_buildTrimmed_155 : decode cc_WM_buildTrimmed 155 = .ok (.invokestatic 237, 3) := by decide +kernel
theorem dd_WM_buildTrimmed_158 : decode cc_WM_buildTrimmed 158 = .ok (.iload 6, 2) := by decide +kernel
theorem dd_WM_buildTrimmed_160 : decode cc_WM_buildTrimmed 160 = .ok (.iload_n 2, 1) := by decide +kernel
theorem dd_WM_buildTrimmed_161 : decode cc_WM_buildTrimmed 161 = .ok (.iload 5, 2) := by decide +kernel
theorem dd_WM_buildTrimmed_163 : decode cc_WM_buildTrimmed 163 = .ok (.invokestatic 237, 3) := by decide +kernel
theorem dd_WM_buildTrimmed_166 : decode cc_WM_buildTrimmed 166 = .ok (.invokestatic 100, 3) := by decide +kernel
theorem dd_WM_buildTrimmed_169 : decode cc_WM_buildTrimmed 169 = .ok (.aload_n 1, 1) := by decide +kernel
theorem dd_WM_buildTrimmed_170 : decode cc_WM_buildTrimmed 170 = .ok (.getfield 187, 3) := by decide +kernel
theorem dd_WM_buildTrimmed_173 : decode cc_WM_buildTrimmed 173 = .ok (.iload_n 3, 1) := by decide +kernel
theorem dd_WM_buildTrimmed_174 : decode cc_WM_buildTrimmed 174 = .ok (.laload, 1) := by decide +kernel
theorem dd_WM_buildTrimmed_175 : decode cc_WM_buildTrimmed 175 = .ok (.invokevirtual 104, 3) := by decide +kernel
theorem dd_WM_buildTrimmed_178 : decode cc_WM_buildTrimmed 178 = .ok (.pop, 1) := by decide +kernel
theorem dd_WM_buildTrimmed_179 : decode cc_WM_buildTrimmed 179 = .ok (.iinc 3 1, 3) := by decide +kernel
theorem dd_WM_buildTrimmed_182 : decode cc_WM_buildTrimmed 182 = .ok (.goto (-93), 3) := by decide +kernel
theorem dd_WM_buildTrimmed_185 : decode cc_WM_buildTrimmed 185 = .ok (.return_, 1) := by decide +kernel
/-! TRIMMING -/
def pc_P (P : Nat → Bool) : Nat → Nat
  | 0 => 0
  | n + 1 => pc_P P n + (P n).toNat
theorem pc_P_ct {P : Nat → Bool} {b : Nat} (h : ∀ q, q < 16 → b.testBit q = P q) : ∀ n, n ≤ 16 → pc_ct b n = pc_P P n
  | 0, _ => rfl
  | n + 1, hn => by
    show pc_ct b n + (b.testBit n).toNat = pc_P P n + (P n).toNat
    rw [pc_P_ct h n (by omega), h n (by omega)]
theorem pc_P_le (P : Nat → Bool) : ∀ n, pc_P P n ≤ n
  | 0 => Nat.le_refl _
  | n + 1 => by
    have := pc_P_le P n
    show pc_P P n + (P n).toNat ≤ n + 1
    have h : (P n).toNat ≤ 1 := by cases P n <;> decide
    omega
theorem pc_P_mono (P : Nat → Bool) {m n : Nat} (h : m ≤ n) : pc_P P m ≤ pc_P P n := by
  induction n with
  | zero => rw [Nat.le_zero.mp h]; exact Nat.le_refl _
  | succ n ih =>
    rcases Nat.lt_or_eq_of_le h with h | rfl
    · have := ih (by omega)
      show pc_P P m ≤ pc_P P n + (P n).toNat
      omega
    · exact Nat.le_refl _
theorem pc_P_lt {P : Nat → Bool} {q n : Nat} (h : P q = true) (hq : q < n) : pc_P P q < pc_P P n := by
  have h1 := pc_P_mono P (m := q + 1) (n := n) hq
  have h2 : pc_P P (q + 1) = pc_P P q + 1 := by
    show pc_P P q + (P q).toNat = _
    rw [h]; rfl
  omega
theorem pc_P_0 {P : Nat → Bool} : ∀ n, pc_P P n = 0 → ∀ q, q < n → P q = false
  | 0, _, q, hq => absurd hq (Nat.not_lt_zero _)
  | n + 1, h, q, hq => by
    have h : pc_P P n + (P n).toNat = 0 := h
    rcases Nat.lt_succ_iff_lt_or_eq.mp hq with hq | rfl
    · exact pc_P_0 n (by omega) q hq
    · cases hP : P q with
      | false => rfl
      | true => rw [hP] at h; simp at h
theorem pc_b0 {b : Nat} (hb : b < 65536) (h : ∀ q, q < 16 → b.testBit q = false) : b = 0 := by
  apply Nat.eq_of_testBit_eq
  intro q
  rw [Nat.zero_testBit]
  by_cases hq : q < 16
  · exact h q hq
  · exact Nat.testBit_lt_two_pow (Nat.lt_of_lt_of_le hb (Nat.pow_le_pow_right (n := 2) (i := 16) (by decide) (by omega)))
def tr_a (a : am_T) : ls_V := ls_it ((am_ar a).map am_xa) 16 (am_v0 a)
def tr_b (a : am_T) : ls_V := ls_it ((am_ar a).map am_xb) 16 (am_e0 a (am_n a))
def tr_P (a : am_T) (q : Nat) : Bool := (tr_a a q).isSome && (tr_b a q).isSome
def tr_i (P : Nat → Bool) (x : Nat × Nat) : Option (Nat × Nat) := if (P (x.1 / 1024) && P (x.1 % 16)) = true then some (pc_P P (x.1 / 1024) * 1024 + x.1 / 16 % 64 * 16 + pc_P P (x.1 % 16), x.2) else none
def tr_ar (P : Nat → Bool) (l : List (Nat × Nat)) (k : Nat) : List (Nat × Nat) := ((l.take k).filterMap (tr_i P)).foldl mk_br []
def tr_es (a : am_T) (P : Nat → Bool) : Nat → Nat → Option Nat
  | 0 => fun _ => none
  | k + 1 => if P k = true then va_up (tr_es a P k) (pc_P P k) (am_en a k) else tr_es a P k
def tr_st (a : am_T) (P : Nat → Bool) : Option (Nat × Nat) := if pc_P P 16 = 0 then none else (am_st a).map (fun x => (pc_P P x.1, x.2))
def tr_mk (a : am_T) (P : Nat → Bool) : am_T := (pc_P P 16, tr_st a P, tr_es a P (am_n a), tr_ar P (am_ar a) (am_ar a).length)
theorem tr_es_y {a : am_T} {P : Nat → Bool} {k : Nat} (h : P k = true) : tr_es a P (k + 1) = va_up (tr_es a P k) (pc_P P k) (am_en a k) := if_pos h
theorem tr_es_n {a : am_T} {P : Nat → Bool} {k : Nat} (h : P k = false) : tr_es a P (k + 1) = tr_es a P k := if_neg (by rw [h]; decide)
theorem tr_ar_n {P : Nat → Bool} {l : List (Nat × Nat)} {k : Nat} {x : Nat × Nat} (h : l[k]? = some x) (hx : tr_i P x = none) : tr_ar P l (k + 1) = tr_ar P l k := by
  unfold tr_ar
  rw [List.take_add_one, h]
  simp [hx]
theorem tr_ar_y {P : Nat → Bool} {l : List (Nat × Nat)} {k : Nat} {x y : Nat × Nat} (h : l[k]? = some x) (hx : tr_i P x = some y) : tr_ar P l (k + 1) = mk_br (tr_ar P l k) y := by
  unfold tr_ar
  rw [List.take_add_one, h]
  simp [hx]
theorem am_xa_E {l : List (Nat × Nat)} (hl : ∀ x ∈ l, x.1 < 16384) : ∀ e ∈ l.map am_xa, e.1 < 16 ∧ e.2.1 < 16 := by
  intro e he
  obtain ⟨x, hx, rfl⟩ := List.mem_map.mp he
  have := hl x hx
  exact ⟨by show x.1 / 1024 < 16; omega, by show x.1 % 16 < 16; omega⟩
theorem am_xb_E {l : List (Nat × Nat)} (hl : ∀ x ∈ l, x.1 < 16384) : ∀ e ∈ l.map am_xb, e.1 < 16 ∧ e.2.1 < 16 := by
  intro e he
  obtain ⟨x, hx, rfl⟩ := List.mem_map.mp he
  have := hl x hx
  exact ⟨by show x.1 % 16 < 16; omega, by show x.1 / 1024 < 16; omega⟩
theorem tr_a_fix {a : am_T} (h : ∀ x ∈ am_ar a, x.1 < 16384) : ls_fix ((am_ar a).map am_xa) (am_v0 a) (tr_a a) := ls_it_fix (am_xa_E h) (by decide)
theorem tr_b_fix {a : am_T} (h : ∀ x ∈ am_ar a, x.1 < 16384) : ls_fix ((am_ar a).map am_xb) (am_e0 a (am_n a)) (tr_b a) := ls_it_fix (am_xb_E h) (by decide)
theorem tr_a_none {a : am_T} (h : ∀ x ∈ am_ar a, x.1 < 16384) (hs : am_st a = none) (q : Nat) : tr_a a q = none := by
  have h1 := (tr_a_fix h).2.2 (fun _ => none) (fun q y hy => by unfold am_v0 at hy; rw [hs] at hy; cases hy) (fun x _ y hy => by cases hy) q
  rcases hq : tr_a a q with _ | y
  · rfl
  · obtain ⟨x, hx, -⟩ := h1 y hq
    cases hx
set_option maxRecDepth 100000 in
set_option maxHeartbeats 4000000 in
theorem ct_WM_buildTrimmed (l : Launch) (D : va_G) (dA : Nat → ClassId) (ad : Nat → Nat) (mm : Nat → gm_V) (r : Nat → va_E) {im ia : Nat} {a : am_T} (him : im < 5) (hia : ia < 5) (hna : ia ≠ im) (hMa : gm_is (mm ia) a) (hok : am_ok a) (hc0 : r 0 = wm_c ad im) : gx_Ct l D dA yy_WM_buildTrimmed cc_WM_buildTrimmed 7 none 2 0 0 [.ref (ad 0), .ref (ad (2 + 4 * ia))] (gx_w ad (gm_h dA ad mm r)) (fun v w => v = none ∧ ∃ M, w = gx_w ad (gm_h dA ad (va_up mm im M) r) ∧ mb_iv M (tr_mk a (tr_P a))) := by
  refine gx_of (by decide) (Nat.le_of_ble_eq_true rfl) (fun K C _ _ => ?_)
  have hn16 := hok.1.1
  have hl64 := hok.1.2.1
  obtain ⟨P, hP⟩ : ∃ P, P = tr_P a := ⟨_, rfl⟩
  rw [← hP]
  refine gx_aload_n C 1 dd_WM_buildTrimmed_0 (kk := ?_)
  refine gx_callV C (ct_Ma_statesAhead (gx_l K) D dA ad mm r hia hMa hn16 hl64 (fun x hx => (hok.1.2.2.1 x hx).1) hok.2.2.1 (fun x hx => (hok.1.2.2.2.2 x hx).1) (fun q e he => Nat.lt_trans (hok.1.2.2.2.1 q e he) (by decide))) me_Ma_statesAhead ml_WM_223 mn_Ma_statesAhead _ (gx_w_at (by omega) (gm_at (j := 0) hia (by decide))) rfl dd_WM_buildTrimmed_1 (kk := fun v w hq => ?_)
  obtain ⟨rfl, ba, va, rfl, hba, hfa⟩ := hq
  have hva := ls_one hfa (tr_a_fix (fun x hx => (hok.1.2.2.1 x hx).1))
  subst hva
  refine gx_aload_n C 1 dd_WM_buildTrimmed_4 (kk := ?_)
  refine gx_callV C (ct_Ma_statesBehind (gx_l K) D dA ad mm r hia hMa hn16 hl64 (fun x hx => (hok.1.2.2.1 x hx).1) hok.2.2.1 (fun x hx => (hok.1.2.2.2.2 x hx).1) (fun q e he => Nat.lt_trans (hok.1.2.2.2.1 q e he) (by decide))) me_Ma_statesBehind ml_WM_226 mn_Ma_statesBehind _ (gx_w_at (by omega) (gm_at (j := 0) hia (by decide))) rfl dd_WM_buildTrimmed_5 (kk := fun v w hq => ?_)
  obtain ⟨rfl, bb, vb, rfl, hbb, hfb⟩ := hq
  have hvb := ls_one hfb (tr_b_fix (fun x hx => (hok.1.2.2.1 x hx).1))
  subst hvb
  refine gx_iand C dd_WM_buildTrimmed_8 (kk := ?_)
  refine gx_topi _ (bs_and _ _) ?_
  have hPt : ∀ q, q < 16 → (ba &&& bb).testBit q = P q := fun q hq => by
    rw [Nat.testBit_and, hba.2.1 q hq, hbb.2.1 q hq, hP]
    rfl
  have hb : (ba &&& bb) < 65536 := Nat.lt_of_le_of_lt Nat.and_le_left hba.1
  generalize (ba &&& bb) = b at hPt hb ⊢
  refine gx_istore_n C _ dd_WM_buildTrimmed_9 (kk := ?_)
  have loop3 : ∀ m q M, q + m = (am_ar a).length → mb_iv M (pc_P P 16, tr_st a P, tr_es a P (am_n a), tr_ar P (am_ar a) q) → gx_G K D 7 0 0 89 [(3, .int (nI q)), (2, .int (nI b)), (0, .ref (ad 0)), (1, .ref (ad (2 + 4 * ia)))] [] (gx_w ad (gm_h dA ad (va_up mm im M) r)) (gx_Z K D dA 0 0 (fun v w => v = none ∧ ∃ M, w = gx_w ad (gm_h dA ad (va_up mm im M) r) ∧ mb_iv M (tr_mk a P))) := by
    intro m
    induction m with
    | zero =>
      intro q M hq hI
      refine gx_iload_n C 0 dd_WM_buildTrimmed_89 (kk := ?_)
      refine gx_aload_n C 3 dd_WM_buildTrimmed_90 (kk := ?_)
      refine gm_get C fd_WM_108 hia dd_WM_buildTrimmed_91 (kk := ?_)
      refine gx_topi (nI (am_ar a).length) (by rw [gm_un hna]; exact hMa.2.2.2.1) ?_
      refine gx_icmp_ge C 185 dd_WM_buildTrimmed_94 (fun h94 => ?_) (fun h94 => absurd (nI_le (a := (am_ar a).length) (b := q) (by omega) (by omega)) h94)
      refine gx_vret C dd_WM_buildTrimmed_185 ?_
      rw [show q = (am_ar a).length by omega] at hI
      exact ⟨rfl, M, rfl, hI⟩
    | succ m ih =>
      intro q M hq hI
      obtain ⟨x, hx⟩ : ∃ x, (am_ar a)[q]? = some x := ⟨_, List.getElem?_eq_getElem (by omega)⟩
      have hxm := List.mem_of_getElem? hx
      obtain ⟨hx1, hx2⟩ := hMa.2.2.2.2 _ _ hx
      obtain ⟨hxb, hxw⟩ := hok.1.2.2.1 x hxm
      have hxn := hok.2.2.1 x hxm
      refine gx_iload_n C 0 dd_WM_buildTrimmed_89 (kk := ?_)
      refine gx_aload_n C 3 dd_WM_buildTrimmed_90 (kk := ?_)
      refine gm_get C fd_WM_108 hia dd_WM_buildTrimmed_91 (kk := ?_)
      refine gx_topi (nI (am_ar a).length) (by rw [gm_un hna]; exact hMa.2.2.2.1) ?_
      refine gx_icmp_ge C 185 dd_WM_buildTrimmed_94 (fun h94 => absurd h94 (nI_ge (by omega) (by omega))) (fun h94 => ?_)
      refine gx_aload_n C 3 dd_WM_buildTrimmed_97 (kk := ?_)
      refine gm_get C fd_WM_186 hia dd_WM_buildTrimmed_98 (kk := ?_)
      refine gx_iload_n C 0 dd_WM_buildTrimmed_101 (kk := ?_)
      refine gm_ln_k C hia dd_WM_buildTrimmed_102 (by omega) (kk := ?_)
      refine gx_topi (nI x.1) (by rw [gm_un hna]; exact hx1) ?_
      refine gx_callS C (ct_WM_fromOf (gx_l K) D dA _ x.1 (by omega)) me_WM_fromOf ml_WM_217 ms_WM_fromOf dd_WM_buildTrimmed_103 (kk := fun v w hq => ?_)
      obtain ⟨rfl, rfl⟩ := hq
      refine gx_istore C _ dd_WM_buildTrimmed_106 (kk := ?_)
      refine gx_aload_n C 4 dd_WM_buildTrimmed_108 (kk := ?_)
      refine gm_get C fd_WM_186 hia dd_WM_buildTrimmed_109 (kk := ?_)
      refine gx_iload_n C 1 dd_WM_buildTrimmed_112 (kk := ?_)
      refine gm_ln_k C hia dd_WM_buildTrimmed_113 (by omega) (kk := ?_)
      refine gx_topi (nI x.1) (by rw [gm_un hna]; exact hx1) ?_
      refine gx_callS C (ct_WM_toOf (gx_l K) D dA _ x.1 (by omega)) me_WM_toOf ml_WM_220 ms_WM_toOf dd_WM_buildTrimmed_114 (kk := fun v w hq => ?_)
      obtain ⟨rfl, rfl⟩ := hq
      refine gx_istore C _ dd_WM_buildTrimmed_117 (kk := ?_)
      refine gx_iload_n C 3 dd_WM_buildTrimmed_119 (kk := ?_)
      refine gx_iload C 1 dd_WM_buildTrimmed_120 (kk := ?_)
      refine gx_callS C (ct_WM_isIn (gx_l K) D dA _ b (x.1 / 1024) (by omega) (by omega)) me_WM_isIn ml_WM_234 ms_WM_isIn dd_WM_buildTrimmed_122 (kk := fun v w hq => ?_)
      obtain ⟨rfl, rfl⟩ := hq
      refine gx_topi (nI (P (x.1 / 1024)).toNat) (by rw [hPt _ (by omega)]) ?_
      have hf16 := pc_P_le P (x.1 / 1024)
      have ht16 := pc_P_le P (x.1 % 16)
      rcases hpf : P (x.1 / 1024) with _ | _
      · refine gx_if_eq C 179 dd_WM_buildTrimmed_125 (fun h125 => ?_) (fun h125 => absurd rfl h125)
        refine gx_iinc C 2 (nI (q + 1)) _ dd_WM_buildTrimmed_179 (nI_1 q) (kk := ?_)
        refine gx_goto C 89 dd_WM_buildTrimmed_182 (kk := ?_)
        refine gx_loc [0, 3, 4, 5] ?_
        exact ih (q + 1) M (by omega) (by rw [tr_ar_n hx (by unfold tr_i; rw [hpf]; rfl)]; exact hI)
      · refine gx_if_eq C 179 dd_WM_buildTrimmed_125 (fun h125 => absurd (show true = false from fb_0.mp h125) (by decide)) (fun h125 => ?_)
        refine gx_iload_n C 3 dd_WM_buildTrimmed_128 (kk := ?_)
        refine gx_iload C 0 dd_WM_buildTrimmed_129 (kk := ?_)
        refine gx_callS C (ct_WM_isIn (gx_l K) D dA _ b (x.1 % 16) (by omega) (by omega)) me_WM_isIn ml_WM_234 ms_WM_isIn dd_WM_buildTrimmed_131 (kk := fun v w hq => ?_)
        obtain ⟨rfl, rfl⟩ := hq
        refine gx_topi (nI (P (x.1 % 16)).toNat) (by rw [hPt _ (by omega)]) ?_
        rcases hpt : P (x.1 % 16) with _ | _
        · refine gx_if_eq C 179 dd_WM_buildTrimmed_134 (fun h134 => ?_) (fun h134 => absurd rfl h134)
          refine gx_iinc C 2 (nI (q + 1)) _ dd_WM_buildTrimmed_179 (nI_1 q) (kk := ?_)
          refine gx_goto C 89 dd_WM_buildTrimmed_182 (kk := ?_)
          refine gx_loc [0, 3, 4, 5] ?_
          exact ih (q + 1) M (by omega) (by rw [tr_ar_n hx (by unfold tr_i; rw [hpf, hpt]; rfl)]; exact hI)
        · refine gx_if_eq C 179 dd_WM_buildTrimmed_134 (fun h134 => absurd (show true = false from fb_0.mp h134) (by decide)) (fun h134 => ?_)
          refine gx_aload_n C 5 dd_WM_buildTrimmed_137 (kk := ?_)
          refine gm_get C fd_WM_186 hia dd_WM_buildTrimmed_138 (kk := ?_)
          refine gx_iload_n C 2 dd_WM_buildTrimmed_141 (kk := ?_)
          refine gm_ln_k C hia dd_WM_buildTrimmed_142 (by omega) (kk := ?_)
          refine gx_topi (nI x.1) (by rw [gm_un hna]; exact hx1) ?_
          refine gx_callS C (ct_WM_labelsOf (gx_l K) D dA _ x.1 (by omega)) me_WM_labelsOf ml_WM_241 ms_WM_labelsOf dd_WM_buildTrimmed_143 (kk := fun v w hq => ?_)
          obtain ⟨rfl, rfl⟩ := hq
          refine gx_istore C _ dd_WM_buildTrimmed_146 (kk := ?_)
          refine gx_aload_n C 5 dd_WM_buildTrimmed_148 (kk := ?_)
          refine gx_get C fd_WM_16 (gm_r hc0) dd_WM_buildTrimmed_149 (kk := ?_)
          refine gx_iload_n C 4 dd_WM_buildTrimmed_152 (kk := ?_)
          refine gx_iload C 2 dd_WM_buildTrimmed_153 (kk := ?_)
          refine gx_callS C (ct_WM_rankIn (gx_l K) D dA _ (b := b) (q := x.1 / 1024) hb (by omega)) me_WM_rankIn ml_WM_237 ms_WM_rankIn dd_WM_buildTrimmed_155 (kk := fun v w hq => ?_)
          obtain ⟨rfl, rfl⟩ := hq
          refine gx_topi (nI (pc_P P (x.1 / 1024))) (by rw [pc_P_ct hPt _ (by omega)]) ?_
          refine gx_iload C 0 dd_WM_buildTrimmed_158 (kk := ?_)
          refine gx_iload_n C 4 dd_WM_buildTrimmed_160 (kk := ?_)
          refine gx_iload C 1 dd_WM_buildTrimmed_161 (kk := ?_)
          refine gx_callS C (ct_WM_rankIn (gx_l K) D dA _ (b := b) (q := x.1 % 16) hb (by omega)) me_WM_rankIn ml_WM_237 ms_WM_rankIn dd_WM_buildTrimmed_163 (kk := fun v w hq => ?_)
          obtain ⟨rfl, rfl⟩ := hq
          refine gx_topi (nI (pc_P P (x.1 % 16))) (by rw [pc_P_ct hPt _ (by omega)]) ?_
          refine gx_callS C (ct_WM_keyOf (gx_l K) D dA _ (pc_P P (x.1 / 1024)) (x.1 / 16 % 64) (pc_P P (x.1 % 16)) (by omega) (by omega) (by omega)) me_WM_keyOf ml_WM_100 ms_WM_keyOf dd_WM_buildTrimmed_166 (kk := fun v w hq => ?_)
          obtain ⟨rfl, rfl⟩ := hq
          refine gx_aload_n C 6 dd_WM_buildTrimmed_169 (kk := ?_)
          refine gm_get C fd_WM_187 hia dd_WM_buildTrimmed_170 (kk := ?_)
          refine gx_iload_n C 3 dd_WM_buildTrimmed_173 (kk := ?_)
          refine gm_ln_g C hia dd_WM_buildTrimmed_174 (by omega) (kk := ?_)
          refine gx_topl (lN x.2) (by rw [gm_un hna]; exact hx2) ?_
          refine gx_callV C (ct_Ma_bring (gx_l K) D dA ad (va_up mm im M) r (key := pc_P P (x.1 / 1024) * 1024 + x.1 / 16 % 64 * 16 + pc_P P (x.1 % 16)) (x0 := x.2) (B := 35184372088832) him (by rw [gm_us]; exact hI.1) hI.2.1 hI.2.2 (by decide) (by omega) (by omega)) me_Ma_bring ml_WM_104 mn_Ma_bring _ (gx_w_at (by omega) (gm_at (j := 0) him (by decide))) rfl dd_WM_buildTrimmed_175 (kk := fun v w hq => ?_)
          have hy : tr_i P x = some (pc_P P (x.1 / 1024) * 1024 + x.1 / 16 % 64 * 16 + pc_P P (x.1 % 16), x.2) := by unfold tr_i; rw [hpf, hpt]; rfl
          rcases hq with ⟨hr, rfl, M2, rfl, hM2⟩ | ⟨hr, rfl, rfl⟩
          · rw [gm_uu]
            have hI2 := mb_br2 hI (pc_P P (x.1 / 1024) * 1024 + x.1 / 16 % 64 * 16 + pc_P P (x.1 % 16), x.2) hr hM2 (by show pc_P P (x.1 / 1024) * 1024 + x.1 / 16 % 64 * 16 + pc_P P (x.1 % 16) < _; omega) (by show x.2 < _; omega)
            refine gx_pop C dd_WM_buildTrimmed_178 (kk := ?_)
            refine gx_iinc C 3 (nI (q + 1)) _ dd_WM_buildTrimmed_179 (nI_1 q) (kk := ?_)
            refine gx_goto C 89 dd_WM_buildTrimmed_182 (kk := ?_)
            refine gx_loc [0, 4, 5, 6] ?_
            exact ih (q + 1) M2 (by omega) (by rw [tr_ar_y hx hy]; exact hI2)
          · have hI2 := mb_br hI (pc_P P (x.1 / 1024) * 1024 + x.1 / 16 % 64 * 16 + pc_P P (x.1 % 16), x.2) hr
            refine gx_pop C dd_WM_buildTrimmed_178 (kk := ?_)
            refine gx_iinc C 3 (nI (q + 1)) _ dd_WM_buildTrimmed_179 (nI_1 q) (kk := ?_)
            refine gx_goto C 89 dd_WM_buildTrimmed_182 (kk := ?_)
            refine gx_loc [0, 4, 5, 6] ?_
            exact ih (q + 1) M (by omega) (by rw [tr_ar_y hx hy]; exact hI2)
  have loop1 : ∀ m q M, q + m = am_n a → mb_iv M (pc_P P 16, none, tr_es a P q, []) → gx_G K D 7 0 0 23 [(3, .int (nI q)), (2, .int (nI b)), (0, .ref (ad 0)), (1, .ref (ad (2 + 4 * ia)))] [] (gx_w ad (gm_h dA ad (va_up mm im M) r)) (gx_Z K D dA 0 0 (fun v w => v = none ∧ ∃ M, w = gx_w ad (gm_h dA ad (va_up mm im M) r) ∧ mb_iv M (tr_mk a P))) := by
    intro m
    induction m with
    | zero =>
      intro q M hq hI
      refine gx_iload_n C 0 dd_WM_buildTrimmed_23 (kk := ?_)
      refine gx_aload_n C 3 dd_WM_buildTrimmed_24 (kk := ?_)
      refine gm_get C fd_WM_120 hia dd_WM_buildTrimmed_25 (kk := ?_)
      refine gx_topi (nI (am_n a)) (by rw [gm_un hna]; exact hMa.1) ?_
      refine gx_icmp_ge C 64 dd_WM_buildTrimmed_28 (fun h28 => ?_) (fun h28 => absurd (nI_le (a := am_n a) (b := q) (by omega) (by omega)) h28)
      rw [show q = am_n a by omega] at hI
      by_cases hb0 : b = 0
      · have hp0 : pc_P P 16 = 0 := by
          rw [← pc_P_ct hPt 16 (Nat.le_refl _), hb0]
          decide
        refine gx_iload_n C 1 dd_WM_buildTrimmed_64 (kk := ?_)
        refine gx_if_eq C 87 dd_WM_buildTrimmed_65 (fun h65 => ?_) (fun h65 => absurd (by rw [hb0]; rfl) h65)
        refine gx_iconst (v := nI 0) C dd_WM_buildTrimmed_87 (kk := ?_)
        refine gx_istore_n C _ dd_WM_buildTrimmed_88 (kk := ?_)
        exact loop3 (am_ar a).length 0 M (by omega) (by rw [tr_st, if_pos hp0]; exact hI)
      · have hp0 : ¬ pc_P P 16 = 0 := fun e => hb0 (pc_b0 hb (fun q hq => (hPt q hq).trans (pc_P_0 16 e q hq)))
        obtain ⟨s0, hst⟩ : ∃ s0, am_st a = some s0 := by
          rcases hst : am_st a with _ | s0
          · exfalso
            refine hb0 (pc_b0 hb (fun q hq => ?_))
            rw [hPt q hq, hP]
            unfold tr_P
            rw [tr_a_none (fun x hx => (hok.1.2.2.1 x hx).1) hst q]
            rfl
          · exact ⟨s0, rfl⟩
        have hsq := hMa.2.1
        rw [hst] at hsq
        have hs0 := hok.1.2.2.2.2 s0 hst
        have hrk := pc_P_le P s0.1
        refine gx_iload_n C 1 dd_WM_buildTrimmed_64 (kk := ?_)
        refine gx_if_eq C 87 dd_WM_buildTrimmed_65 (fun h65 => absurd ((nI_eq (a := b) (b := 0) (by omega) (by decide)).mp h65) hb0) (fun h65 => ?_)
        refine gx_aload_n C 2 dd_WM_buildTrimmed_68 (kk := ?_)
        refine gx_get C fd_WM_16 (gm_r hc0) dd_WM_buildTrimmed_69 (kk := ?_)
        refine gx_iload_n C 1 dd_WM_buildTrimmed_72 (kk := ?_)
        refine gx_aload_n C 3 dd_WM_buildTrimmed_73 (kk := ?_)
        refine gm_get C fd_WM_150 hia dd_WM_buildTrimmed_74 (kk := ?_)
        refine gx_topi (nI s0.1) (by rw [gm_un hna]; exact hsq.1) ?_
        refine gx_callS C (ct_WM_rankIn (gx_l K) D dA _ (b := b) (q := s0.1) hb (by omega)) me_WM_rankIn ml_WM_237 ms_WM_rankIn dd_WM_buildTrimmed_77 (kk := fun v w hq => ?_)
        obtain ⟨rfl, rfl⟩ := hq
        refine gx_topi (nI (pc_P P (s0.1))) (by rw [pc_P_ct hPt _ (by omega)]) ?_
        refine gx_aload_n C 3 dd_WM_buildTrimmed_80 (kk := ?_)
        refine gm_get C fd_WM_160 hia dd_WM_buildTrimmed_81 (kk := ?_)
        refine gx_topl (lN s0.2) (by rw [gm_un hna]; exact hsq.2) ?_
        refine gx_callV C (ct_Ma_setStart (gx_l K) D dA ad (va_up mm im M) r (i := im) him (nI (pc_P P s0.1)) (lN s0.2)) me_Ma_setStart ml_WM_92 mn_Ma_setStart _ (gx_w_at (by omega) (gm_at (j := 0) him (by decide))) rfl dd_WM_buildTrimmed_84 (kk := fun v w hq => ?_)
        obtain ⟨rfl, rfl⟩ := hq
        rw [gm_uu, gm_us]
        have hI2 := mb_st (q := pc_P P s0.1) (w := s0.2) hI (by omega) (by omega)
        refine gx_iconst (v := nI 0) C dd_WM_buildTrimmed_87 (kk := ?_)
        refine gx_istore_n C _ dd_WM_buildTrimmed_88 (kk := ?_)
        refine loop3 (am_ar a).length 0 _ (by omega) ?_
        rw [tr_st, if_neg hp0, hst]
        exact hI2
    | succ m ih =>
      intro q M hq hI
      refine gx_iload_n C 0 dd_WM_buildTrimmed_23 (kk := ?_)
      refine gx_aload_n C 3 dd_WM_buildTrimmed_24 (kk := ?_)
      refine gm_get C fd_WM_120 hia dd_WM_buildTrimmed_25 (kk := ?_)
      refine gx_topi (nI (am_n a)) (by rw [gm_un hna]; exact hMa.1) ?_
      refine gx_icmp_ge C 64 dd_WM_buildTrimmed_28 (fun h28 => absurd h28 (nI_ge (by omega) (by omega))) (fun h28 => ?_)
      refine gx_iload_n C 1 dd_WM_buildTrimmed_31 (kk := ?_)
      refine gx_iload_n C 0 dd_WM_buildTrimmed_32 (kk := ?_)
      refine gx_callS C (ct_WM_isIn (gx_l K) D dA _ b (q) (by omega) (by omega)) me_WM_isIn ml_WM_234 ms_WM_isIn dd_WM_buildTrimmed_33 (kk := fun v w hq => ?_)
      obtain ⟨rfl, rfl⟩ := hq
      refine gx_topi (nI (P (q)).toNat) (by rw [hPt _ (by omega)]) ?_
      have hrk := pc_P_le P q
      rcases hpq : P q with _ | _
      · refine gx_if_eq C 58 dd_WM_buildTrimmed_36 (fun h36 => ?_) (fun h36 => absurd rfl h36)
        refine gx_iinc C 0 (nI (q + 1)) _ dd_WM_buildTrimmed_58 (nI_1 q) (kk := ?_)
        refine gx_goto C 23 dd_WM_buildTrimmed_61 (kk := ?_)
        exact ih (q + 1) M (by omega) (by rw [tr_es_n hpq]; exact hI)
      · refine gx_if_eq C 58 dd_WM_buildTrimmed_36 (fun h36 => absurd (show true = false from fb_0.mp h36) (by decide)) (fun h36 => ?_)
        refine gx_aload_n C 2 dd_WM_buildTrimmed_39 (kk := ?_)
        refine gx_get C fd_WM_16 (gm_r hc0) dd_WM_buildTrimmed_40 (kk := ?_)
        refine gm_get C fd_WM_96 him dd_WM_buildTrimmed_43 (kk := ?_)
        refine gx_iload_n C 1 dd_WM_buildTrimmed_46 (kk := ?_)
        refine gx_iload_n C 0 dd_WM_buildTrimmed_47 (kk := ?_)
        refine gx_callS C (ct_WM_rankIn (gx_l K) D dA _ (b := b) (q := q) hb (by omega)) me_WM_rankIn ml_WM_237 ms_WM_rankIn dd_WM_buildTrimmed_48 (kk := fun v w hq => ?_)
        obtain ⟨rfl, rfl⟩ := hq
        refine gx_topi (nI (pc_P P (q))) (by rw [pc_P_ct hPt _ (by omega)]) ?_
        refine gx_aload_n C 3 dd_WM_buildTrimmed_51 (kk := ?_)
        refine gm_get C fd_WM_96 hia dd_WM_buildTrimmed_52 (kk := ?_)
        refine gx_iload_n C 0 dd_WM_buildTrimmed_55 (kk := ?_)
        refine gm_ln_e C hia dd_WM_buildTrimmed_56 (by omega) (kk := ?_)
        refine gx_topl (am_e (am_en a q)) (by rw [gm_un hna]; exact hMa.2.2.1 q (by omega)) ?_
        refine gm_sn_eV C him dd_WM_buildTrimmed_57 (by omega) (kk := fun m2 hm2 hn2 hu2 => ?_)
        refine gx_iinc C 0 (nI (q + 1)) _ dd_WM_buildTrimmed_58 (nI_1 q) (kk := ?_)
        refine gx_goto C 23 dd_WM_buildTrimmed_61 (kk := ?_)
        rw [hu2, gm_uu]
        refine ih (q + 1) (m2 im) (by omega) ?_
        rw [hm2, gm_us, tr_es_y hpq]
        exact mb_end hI rfl (fun e2 h2 => by have := hok.1.2.2.2.1 q e2 h2; omega)
  refine gx_aload_n C 1 dd_WM_buildTrimmed_10 (kk := ?_)
  refine gx_get C fd_WM_16 (gm_r hc0) dd_WM_buildTrimmed_11 (kk := ?_)
  refine gx_iload_n C 0 dd_WM_buildTrimmed_14 (kk := ?_)
  refine gx_callS C (ct_JI_bitCount (gx_l K) D dA _ (b := b) hb) me_JI_bitCount ml_WM_229 ms_JI_bitCount dd_WM_buildTrimmed_15 (kk := fun v w hq => ?_)
  obtain ⟨rfl, rfl⟩ := hq
  refine gx_topi (nI (pc_P P 16)) (by rw [pc_P_ct hPt _ (Nat.le_refl _)]) ?_
  refine gx_callV C (ct_Ma_clear (gx_l K) D dA ad mm r (i := im) him (pc_P P 16)) me_Ma_clear ml_WM_80 mn_Ma_clear _ (gx_w_at (by omega) (gm_at (j := 0) him (by decide))) rfl dd_WM_buildTrimmed_18 (kk := fun v w hq => ?_)
  obtain ⟨rfl, M, rfl, hM0⟩ := hq
  refine gx_iconst (v := nI 0) C dd_WM_buildTrimmed_21 (kk := ?_)
  refine gx_istore_n C _ dd_WM_buildTrimmed_22 (kk := ?_)
  refine loop1 (am_n a) 0 M (by omega) ?_
  exact ⟨hM0, am_b_0 _ (pc_P_le P 16), List.Pairwise.nil⟩
