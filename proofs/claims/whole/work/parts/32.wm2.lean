theorem dd_WM_buildPushed_0 : decode cc_WM_buildPushed 0 = .ok (.aload_n 0, 1) := by decide +kernel
theorem dd_WM_buildPushed_1 : decode cc_WM_buildPushed 1 = .ok (.getfield 16, 3) := by decide +kernel
theorem dd_WM_buildPushed_4 : decode cc_WM_buildPushed 4 = .ok (.aload_n 1, 1) := by decide +kernel
theorem dd_WM_buildPushed_5 : decode cc_WM_buildPushed 5 = .ok (.getfield 120, 3) := by decide +kernel
theorem dd_WM_buildPushed_8 : decode cc_WM_buildPushed 8 = .ok (.invokevirtual 80, 3) := by decide +kernel
theorem dd_WM_buildPushed_11 : decode cc_WM_buildPushed 11 = .ok (.iconst 0, 1) := by decide +kernel
theorem dd_WM_buildPushed_12 : decode cc_WM_buildPushed 12 = .ok (.istore_n 2, 1) := by decide +kernel
theorem dd_WM_buildPushed_13 : decode cc_WM_buildPushed 13 = .ok (.iload_n 2, 1) := by decide +kernel
theorem dd_WM_buildPushed_14 : decode cc_WM_buildPushed 14 = .ok (.aload_n 1, 1) := by decide +kernel
theorem dd_WM_buildPushed_15 : decode cc_WM_buildPushed 15 = .ok (.getfield 120, 3) := by decide +kernel
theorem dd_WM_buildPushed_18 : decode cc_WM_buildPushed 18 = .ok (.if_icmp .ge 46, 3) := by decide +kernel
theorem dd_WM_buildPushed_21 : decode cc_WM_buildPushed 21 = .ok (.aload_n 1, 1) := by decide +kernel
theorem dd_WM_buildPushed_22 : decode cc_WM_buildPushed 22 = .ok (.getfield 96, 3) := by decide +kernel
theorem dd_WM_buildPushed_25 : decode cc_WM_buildPushed 25 = .ok (.iload_n 2, 1) := by decide +kernel
theorem dd_WM_buildPushed_26 : decode cc_WM_buildPushed 26 = .ok (.laload, 1) := by decide +kernel
theorem dd_WM_buildPushed_27 : decode cc_WM_buildPushed 27 = .ok (.ldc2_w 144, 3) := by decide +kernel
theorem dd_WM_buildPushed_30 : decode cc_WM_buildPushed 30 = .ok (.lcmp, 1) := by decide +kernel
theorem dd_WM_buildPushed_31 : decode cc_WM_buildPushed 31 = .ok (.ifCond .eq 27, 3) := by decide +kernel
theorem dd_WM_buildPushed_34 : decode cc_WM_buildPushed 34 = .ok (.aload_n 0, 1) := by decide +kernel
theorem dd_WM_buildPushed_35 : decode cc_WM_buildPushed 35 = .ok (.getfield 16, 3) := by decide +kernel
theorem dd_WM_buildPushed_38 : decode cc_WM_buildPushed 38 = .ok (.getfield 96, 3) := by decide +kernel
theorem dd_WM_buildPushed_41 : decode cc_WM_buildPushed 41 = .ok (.iload_n 2, 1) := by decide +kernel
theorem dd_WM_buildPushed_42 : decode cc_WM_buildPushed 42 = .ok (.aload_n 1, 1) := by decide +kernel
theorem dd_WM_buildPushed_43 : decode cc_WM_buildPushed 43 = .ok (.getfield 96, 3) := by decide +kernel
theorem dd_WM_buildPushed_46 : decode cc_WM_buildPushed 46 = .ok (.iload_n 2, 1) := by decide +kernel
theorem dd_WM_buildPushed_47 : decode cc_WM_buildPushed 47 = .ok (.laload, 1) := by decide +kernel
theorem dd_WM_buildPushed_48 : decode cc_WM_buildPushed 48 = .ok (.aload_n 0, 1) := by decide +kernel
theorem dd_WM_buildPushed_49 : decode cc_WM_buildPushed 49 = .ok (.getfield 44, 3) := by decide +kernel
theorem dd_WM_buildPushed_52 : decode cc_WM_buildPushed 52 = .ok (.iload_n 2, 1) := by decide +kernel
theorem dd_WM_buildPushed_53 : decode cc_WM_buildPushed 53 = .ok (.invokevirtual 164, 3) := by decide +kernel
theorem dd_WM_buildPushed_56 : decode cc_WM_buildPushed 56 = .ok (.lsub, 1) := by decide +kernel
theorem dd_WM_buildPushed_57 : decode cc_WM_buildPushed 57 = .ok (.lastore, 1) := by decide +kernel
theorem dd_WM_buildPushed_58 : decode cc_WM_buildPushed 58 = .ok (.iinc 2 1, 3) := by decide +kernel
theorem dd_WM_buildPushed_61 : decode cc_WM_buildPushed 61 = .ok (.goto (-48), 3) := by decide +kernel
theorem dd_WM_buildPushed_64 : decode cc_WM_buildPushed 64 = .ok (.aload_n 1, 1) := by decide +kernel
theorem dd_WM_buildPushed_65 : decode cc_WM_buildPushed 65 = .ok (.getfield 150, 3) := by decide +kernel
theorem dd_WM_buildPushed_68 : decode cc_WM_buildPushed 68 = .ok (.iconst (-1), 1) := by decide +kernel
theorem dd_WM_buildPushed_69 : decode cc_WM_buildPushed 69 = .ok (.if_icmp .eq 52, 3) := by decide +kernel
theorem dd_WM_buildPushed_72 : decode cc_WM_buildPushed 72 = .ok (.aload_n 0, 1) := by decide +kernel
theorem dd_WM_buildPushed_73 : decode cc_WM_buildPushed 73 = .ok (.getfield 44, 3) := by decide +kernel
theorem dd_WM_buildPushed_76 : decode cc_WM_buildPushed 76 = .ok (.aload_n 1, 1) := by decide +kernel
theorem dd_WM_buildPushed_77 : decode cc_WM_buildPushed 77 = .ok (.getfield 150, 3) := by decide +kernel
theorem dd_WM_buildPushed_80 : decode cc_WM_buildPushed 80 = .ok (.invokevirtual 153, 3) := by decide +kernel
theorem dd_WM_buildPushed_83 : decode cc_WM_buildPushed 83 = .ok (.istore_n 2, 1) := by decide +kernel
theorem dd_WM_buildPushed_84 : decode cc_WM_buildPushed 84 = .ok (.iload_n 2, 1) := by decide +kernel
theorem dd_WM_buildPushed_85 : decode cc_WM_buildPushed 85 = .ok (.ifCond .eq 17, 3) := by decide +kernel
theorem dd_WM_buildPushed_88 : decode cc_WM_buildPushed 88 = .ok (.aload_n 0, 1) := by decide +kernel
theorem dd_WM_buildPushed_89 : decode cc_WM_buildPushed 89 = .ok (.getfield 44, 3) := by decide +kernel
theorem dd_WM_buildPushed_92 : decode cc_WM_buildPushed 92 = .ok (.aload_n 1, 1) := by decide +kernel
theorem dd_WM_buildPushed_93 : decode cc_WM_buildPushed 93 = .ok (.getfield 150, 3) := by decide +kernel
theorem dd_WM_buildPushed_96 : decode cc_WM_buildPushed 96 = .ok (.invokevirtual 164, 3) := by decide +kernel
theorem dd_WM_buildPushed_99 : decode cc_WM_buildPushed 99 = .ok (.goto 4, 3) := by decide +kernel
theorem dd_WM_buildPushed_102 : decode cc_WM_buildPushed 102 = .ok (.lconst 0, 1) := by decide +kernel
theorem dd_WM_buildPushed_103 : decode cc_WM_buildPushed 103 = .ok (.lstore_n 3, 1) := by decide +kernel
theorem dd_WM_buildPushed_104 : decode cc_WM_buildPushed 104 = .ok (.aload_n 0, 1) := by decide +kernel
theorem dd_WM_buildPushed_105 : decode cc_WM_buildPushed 105 = .ok (.getfield 16, 3) := by decide +kernel
theorem dd_WM_buildPushed_108 : decode cc_WM_buildPushed 108 = .ok (.aload_n 1, 1) := by decide +kernel
theorem dd_WM_buildPushed_109 : decode cc_WM_buildPushed 109 = .ok (.getfield 150, 3) := by decide +kernel
theorem dd_WM_buildPushed_112 : decode cc_WM_buildPushed 112 = .ok (.aload_n 1, 1) := by decide +kernel
theorem dd_WM_buildPushed_113 : decode cc_WM_buildPushed 113 = .ok (.getfield 160, 3) := by decide +kernel
theorem dd_WM_buildPushed_116 : decode cc_WM_buildPushed 116 = .ok (.lload_n 3, 1) := by decide +kernel
theorem dd_WM_buildPushed_117 : decode cc_WM_buildPushed 117 = .ok (.ladd, 1) := by decide +kernel
theorem dd_WM_buildPushed_118 : decode cc_WM_buildPushed 118 = .ok (.invokevirtual 92, 3) := by decide +kernel
theorem dd_WM_buildPushed_121 : decode cc_WM_buildPushed 121 = .ok (.iconst 0, 1) := by decide +kernel
theorem dd_WM_buildPushed_122 : decode cc_WM_buildPushed 122 = .ok (.istore_n 2, 1) := by decide +kernel
theorem dd_WM_buildPushed_123 : decode cc_WM_buildPushed 123 = .ok (.iload_n 2, 1) := by decide +kernel
theorem dd_WM_buildPushed_124 : decode cc_WM_buildPushed 124 = .ok (.aload_n 1, 1) := by decide +kernel
theorem dd_WM_buildPushed_125 : decode cc_WM_buildPushed 125 = .ok (.getfield 108, 3) := by decide +kernel
theorem dd_WM_buildPushed_128 : decode cc_WM_buildPushed 128 = .ok (.if_icmp .ge 92, 3) := by decide +kernel
theorem dd_WM_buildPushed_131 : decode cc_WM_buildPushed 131 = .ok (.aload_n 1, 1) := by decide +kernel
theorem dd_WM_buildPushed_132 : decode cc_WM_buildPushed 132 = .ok (.getfield 186, 3) := by decide +kernel
theorem dd_WM_buildPushed_135 : decode cc_WM_buildPushed 135 = .ok (.iload_n 2, 1) := by decide +kernel
theorem dd_WM_buildPushed_136 : decode cc_WM_buildPushed 136 = .ok (.iaload, 1) := by decide +kernel
theorem dd_WM_buildPushed_137 : decode cc_WM_buildPushed 137 = .ok (.invokestatic 217, 3) := by decide +kernel
theorem dd_WM_buildPushed_140 : decode cc_WM_buildPushed 140 = .ok (.istore_n 3, 1) := by decide +kernel
theorem dd_WM_buildPushed_141 : decode cc_WM_buildPushed 141 = .ok (.aload_n 1, 1) := by decide +kernel
theorem dd_WM_buildPushed_142 : decode cc_WM_buildPushed 142 = .ok (.getfield 186, 3) := by decide +kernel
theorem dd_WM_buildPushed_145 : decode cc_WM_buildPushed 145 = .ok (.iload_n 2, 1) := by decide +kernel
theorem dd_WM_buildPushed_146 : decode cc_WM_buildPushed 146 = .ok (.iaload, 1) := by decide +kernel
theorem dd_WM_buildPushed_147 : decode cc_WM_buildPushed 147 = .ok (.invokestatic 220, 3) := by decide +kernel
theorem dd_WM_buildPushed_150 : decode cc_WM_buildPushed 150 = .ok (.istore 4, 2) := by decide +kernel
theorem dd_WM_buildPushed_152 : decode cc_WM_buildPushed 152 = .ok (.aload_n 0, 1) := by decide +kernel
theorem dd_WM_buildPushed_153 : decode cc_WM_buildPushed 153 = .ok (.getfield 44, 3) := by decide +kernel
theorem dd_WM_buildPushed_156 : decode cc_WM_buildPushed 156 = .ok (.iload_n 3, 1) := by decide +kernel
theorem dd_WM_buildPushed_157 : decode cc_WM_buildPushed 157 = .ok (.invokevirtual 153, 3) := by decide +kernel
theorem dd_WM_buildPushed_160 : decode cc_WM_buildPushed 160 = .ok (.ifCond .eq 54, 3) := by decide +kernel
theorem dd_WM_buildPushed_163 : decode cc_WM_buildPushed 163 = .ok (.aload_n 0, 1) := by decide +kernel
theorem dd_WM_buildPushed_164 : decode cc_WM_buildPushed 164 = .ok (.getfield 44, 3) := by decide +kernel
theorem dd_WM_buildPushed_167 : decode cc_WM_buildPushed 167 = .ok (.iload 4, 2) := by decide +kernel
theorem dd_WM_buildPushed_169 : decode cc_WM_buildPushed 169 = .ok (.invokevirtual 153, 3) := by decide +kernel
theorem dd_WM_buildPushed_172 : decode cc_WM_buildPushed 172 = .ok (.ifCond .eq 42, 3) := by decide +kernel
theorem dd_WM_buildPushed_175 : decode cc_WM_buildPushed 175 = .ok (.aload_n 0, 1) := by decide +kernel
theorem dd_WM_buildPushed_176 : decode cc_WM_buildPushed 176 = .ok (.getfield 16, 3) := by decide +kernel
theorem dd_WM_buildPushed_179 : decode cc_WM_buildPushed 179 = .ok (.aload_n 1, 1) := by decide +kernel
theorem dd_WM_buildPushed_180 : decode cc_WM_buildPushed 180 = .ok (.getfield 186, 3) := by decide +kernel
theorem dd_WM_buildPushed_183 : decode cc_WM_buildPushed 183 = .ok (.iload_n 2, 1) := by decide +kernel
theorem dd_WM_buildPushed_184 : decode cc_WM_buildPushed 184 = .ok (.iaload, 1) := by decide +kernel
theorem dd_WM_buildPushed_185 : decode cc_WM_buildPushed 185 = .ok (.aload_n 1, 1) := by decide +kernel
theorem dd_WM_buildPushed_186 : decode cc_WM_buildPushed 186 = .ok (.getfield 187, 3) := by decide +kernel
theorem dd_WM_buildPushed_189 : decode cc_WM_buildPushed 189 = .ok (.iload_n 2, 1) := by decide +kernel
theorem dd_WM_buildPushed_190 : decode cc_WM_buildPushed 190 = .ok (.laload, 1) := by decide +kernel
theorem dd_WM_buildPushed_191 : decode cc_WM_buildPushed 191 = .ok (.aload_n 0, 1) := by decide +kernel
theorem dd_WM_buildPushed_192 : decode cc_WM_buildPushed 192 = .ok (.getfield 44, 3) := by decide +kernel
theorem dd_WM_buildPushed_195 : decode cc_WM_buildPushed 195 = .ok (.iload 4, 2) := by decide +kernel
theorem dd_WM_buildPushed_197 : decode cc_WM_buildPushed 197 = .ok (.invokevirtual 164, 3) := by decide +kernel
theorem dd_WM_buildPushed_200 : decode cc_WM_buildPushed 200 = .ok (.ladd, 1) := by decide +kernel
theorem dd_WM_buildPushed_201 : decode cc_WM_buildPushed 201 = .ok (.aload_n 0, 1) := by decide +kernel
theorem dd_WM_buildPushed_202 : decode cc_WM_buildPushed 202 = .ok (.getfield 44, 3) := by decide +kernel
theorem dd_WM_buildPushed_205 : decode cc_WM_buildPushed 205 = .ok (.iload_n 3, 1) := by decide +kernel
theorem dd_WM_buildPushed_206 : decode cc_WM_buildPushed 206 = .ok (.invokevirtual 164, 3) := by decide +kernel
theorem dd_WM_buildPushed_209 : decode cc_WM_buildPushed 209 = .ok (.lsub, 1) := by decide +kernel
theorem dd_WM_buildPushed_210 : decode cc_WM_buildPushed 210 = .ok (.invokevirtual 104, 3) := by decide +kernel
theorem dd_WM_buildPushed_213 : decode cc_WM_buildPushed 213 = .ok (.pop, 1) := by decide +kernel
theorem dd_WM_buildPushed_214 : decode cc_WM_buildPushed 214 = .ok (.iinc 2 1, 3) := by decide +kernel
theorem dd_WM_buildPushed_217 : decode cc_WM_buildPushed 217 = .ok (.goto (-94), 3) := by decide +kernel
theorem dd_WM_buildPushed_220 : decode cc_WM_buildPushed 220 = .ok (.return_, 1) := by decide +kernel
/-! PUSHING -/
theorem on_D15 {l : List (Nat × Nat)} {v0 : ls_V} (h0 : ∀ q c, v0 q = some c → c % 32 = 0) : ∀ k, k ≤ 15 → ∀ q c, ls_D (l.map on_x) v0 k q = some c → c % 32 ≤ k
  | 0, _, q, c, h => by
    have := h0 q c h
    omega
  | k + 1, hk, q, c, h => by
    have ih := on_D15 (l := l) h0 k (by omega)
    have h : ls_J (l.map on_x) (ls_D (l.map on_x) v0 k) q = some c := h
    rcases ls_J_or (l.map on_x) (ls_D (l.map on_x) v0 k) q with h1 | ⟨e, he, -, h1⟩
    · rw [h1] at h
      have := ih q c h
      omega
    · rw [h1] at h
      obtain ⟨d, hd, hdc⟩ := am_ad_some h
      have := ih _ d hd
      obtain ⟨x, -, rfl⟩ := List.mem_map.mp he
      have hdc : d + (x.2 * 32 + 1) = c := hdc
      omega
theorem on_15 {a : am_T} {nv : ls_V} (hok : am_ok a) (h : on_fix a nv) {q c : Nat} (hq : nv q = some c) : c % 32 ≤ 15 := by
  have hE := on_E hok.2.2.1
  have hE16 : ∀ e ∈ (am_ar a).map on_x, e.1 < 16 ∧ e.2.1 < 16 := fun e he => by
    have := hE e he
    have := hok.1.1
    omega
  have hD : ls_fix ((am_ar a).map on_x) (on_v a (am_n a)) (ls_D ((am_ar a).map on_x) (on_v a (am_n a)) 15) := ⟨ls_D_le0 _ _ 15, ls_D_cl hE16 (by decide), fun Y h1 h2 => ls_D_ge h1 h2 15⟩
  rw [ls_one h hD] at hq
  refine on_D15 (fun q c hc => ?_) 15 (Nat.le_refl _) q c hq
  unfold on_v at hc
  split at hc
  · rcases he : am_en a q with _ | e
    · rw [he] at hc; cases hc
    · rw [he] at hc
      have hc : some (e * 32) = some c := hc
      cases hc
      omega
  · cases hc
def pu_w (o : Option Nat) : Nat := match o with
  | none => 0
  | some c => c / 32
def pu_i (nv : ls_V) (x : Nat × Nat) : Option (Nat × Nat) := match nv (x.1 / 1024), nv (x.1 % 16) with
  | some c, some d => some (x.1, x.2 + d / 32 - c / 32)
  | _, _ => none
def mk_br (l : List (Nat × Nat)) (x : Nat × Nat) : List (Nat × Nat) := if am_rm x.1 l = true then am_in x.1 x.2 l else l
def pu_ar (nv : ls_V) (l : List (Nat × Nat)) (k : Nat) : List (Nat × Nat) := ((l.take k).filterMap (pu_i nv)).foldl mk_br []
def pu_es (a : am_T) (nv : ls_V) (k : Nat) : Nat → Option Nat := fun q => if q < k then (am_en a q).map (fun e => e - pu_w (nv q)) else none
def pu_st (a : am_T) (nv : ls_V) : Option (Nat × Nat) := (am_st a).map (fun x => (x.1, x.2 + pu_w (nv x.1)))
def pu_mk (a : am_T) (nv : ls_V) : am_T := (am_n a, pu_st a nv, pu_es a nv (am_n a), pu_ar nv (am_ar a) (am_ar a).length)
theorem pu_es_y {a : am_T} {nv : ls_V} {q e : Nat} (h : am_en a q = some e) : va_up (pu_es a nv q) q (some (e - pu_w (nv q))) = pu_es a nv (q + 1) := by
  funext j
  unfold pu_es
  by_cases hj : j = q
  · subst hj
    rw [gm_us, if_pos (by omega), h]
    rfl
  · rw [gm_un hj]
    by_cases h2 : j < q
    · rw [if_pos h2, if_pos (by omega)]
    · rw [if_neg h2, if_neg (by omega)]
theorem pu_es_n {a : am_T} {nv : ls_V} {q : Nat} (h : am_en a q = none) : pu_es a nv (q + 1) = pu_es a nv q := by
  funext j
  unfold pu_es
  by_cases hj : j = q
  · subst hj
    rw [if_pos (by omega), if_neg (by omega), h]
    rfl
  · by_cases h2 : j < q
    · rw [if_pos h2, if_pos (by omega)]
    · rw [if_neg h2, if_neg (by omega)]
theorem pu_es_0 (a : am_T) (nv : ls_V) : pu_es a nv 0 = fun _ => none := by
  funext j
  unfold pu_es
  rw [if_neg (by omega)]
theorem pu_ar_n {nv : ls_V} {l : List (Nat × Nat)} {k : Nat} {x : Nat × Nat} (h : l[k]? = some x) (hx : pu_i nv x = none) : pu_ar nv l (k + 1) = pu_ar nv l k := by
  unfold pu_ar
  rw [List.take_add_one, h]
  simp [hx]
theorem pu_ar_y {nv : ls_V} {l : List (Nat × Nat)} {k : Nat} {x y : Nat × Nat} (h : l[k]? = some x) (hx : pu_i nv x = some y) : pu_ar nv l (k + 1) = mk_br (pu_ar nv l k) y := by
  unfold pu_ar
  rw [List.take_add_one, h]
  simp [hx]
/-- the weight of an arc that is pushed is not below nought -/
theorem pu_nn {a : am_T} {nv : ls_V} (hok : am_ok a) (h : on_fix a nv) {x : Nat × Nat} (hx : x ∈ am_ar a) {c d : Nat} (hc : nv (x.1 / 1024) = some c) (hd : nv (x.1 % 16) = some d) : c / 32 ≤ x.2 + d / 32 := by
  have h1 := h.2.1 (on_x x) (List.mem_map_of_mem hx)
  have h2 : ls_le (nv (x.1 / 1024)) (ls_ad (nv (x.1 % 16)) (x.2 * 32 + 1)) := h1
  obtain ⟨c2, h3, h4⟩ := h2 (d + (x.2 * 32 + 1)) (by rw [hd]; rfl)
  rw [hc] at h3
  cases h3
  have := on_15 hok h hd
  omega
theorem pu_ne {a : am_T} {nv : ls_V} (h : on_fix a nv) {q e : Nat} (hq : q < am_n a) (he : am_en a q = some e) : ∃ c, nv q = some c ∧ c / 32 ≤ e := by
  obtain ⟨c, hc, hl⟩ := h.1 q (e * 32) (by unfold on_v; rw [if_pos hq, he]; rfl)
  exact ⟨c, hc, by omega⟩
theorem mb_br {M : gm_V} {n : Nat} {st : Option (Nat × Nat)} {en : Nat → Option Nat} {ar : List (Nat × Nat)} (h : mb_iv M (n, st, en, ar)) (x : Nat × Nat) (hr : am_rm x.1 ar = false) : mb_iv M (n, st, en, mk_br ar x) := by
  unfold mk_br
  rw [if_neg (by rw [hr]; decide)]
  exact h
theorem mb_br2 {M M0 : gm_V} {n : Nat} {st : Option (Nat × Nat)} {en : Nat → Option Nat} {ar : List (Nat × Nat)} (h : mb_iv M0 (n, st, en, ar)) (x : Nat × Nat) (hr : am_rm x.1 ar = true) (hM : gm_is M (n, st, en, am_in x.1 x.2 ar)) (hk : x.1 < 16384) (hw : x.2 < 35184372088832) : mb_iv M (n, st, en, mk_br ar x) := by
  unfold mk_br
  rw [if_pos hr]
  exact mb_in h hM hr hk hw
theorem mb_st {M : gm_V} {n : Nat} {st : Option (Nat × Nat)} {en : Nat → Option Nat} {ar : List (Nat × Nat)} {q w : Nat} (h : mb_iv M (n, st, en, ar)) (hq : q < 16) (hw : w < 35184372088832) : mb_iv (gm_n M, nI q, lN w, gm_e M, gm_c M, gm_k M, gm_g M) (n, some (q, w), en, ar) := by
  refine ⟨⟨h.1.1, ⟨rfl, rfl⟩, h.1.2.2⟩, ⟨h.2.1.1, h.2.1.2.1, h.2.1.2.2.1, h.2.1.2.2.2.1, fun x hx => ?_⟩, h.2.2⟩
  cases hx
  exact ⟨hq, hw⟩
set_option maxRecDepth 100000 in
set_option maxHeartbeats 4000000 in
theorem ct_WM_buildPushed (l : Launch) (D : va_G) (dA : Nat → ClassId) (ad : Nat → Nat) (mm : Nat → gm_V) (r : Nat → va_E) {im ia : Nat} {a : am_T} {nv : ls_V} {f : Nat → Int64} (him : im < 5) (hia : ia < 5) (hna : ia ≠ im) (hMa : gm_is (mm ia) a) (hok : am_ok a) (hc0 : r 0 = wm_c ad im) (hc29 : r 29 = .inr (5, [.ref (ad 30)])) (hc30 : r 30 = .inl (dA 1, 16, .inr (.inl f))) (hf : on_in f (am_n a) nv) (hfix : on_fix a nv) (hvb : sp_b 100000000000000 nv) : gx_Ct l D dA yy_WM_buildPushed cc_WM_buildPushed 5 none 2 0 0 [.ref (ad 0), .ref (ad (2 + 4 * ia))] (gx_w ad (gm_h dA ad mm r)) (fun v w => v = none ∧ ∃ M, w = gx_w ad (gm_h dA ad (va_up mm im M) r) ∧ mb_iv M (pu_mk a nv)) := by
  refine gx_of (by decide) (Nat.le_of_ble_eq_true rfl) (fun K C _ _ => ?_)
  have hn16 := hok.1.1
  have hl64 := hok.1.2.1
  have loop3 : ∀ m q M, q + m = (am_ar a).length → mb_iv M (am_n a, pu_st a nv, pu_es a nv (am_n a), pu_ar nv (am_ar a) q) → gx_G K D 5 0 0 123 [(2, .int (nI q)), (0, .ref (ad 0)), (1, .ref (ad (2 + 4 * ia)))] [] (gx_w ad (gm_h dA ad (va_up mm im M) r)) (gx_Z K D dA 0 0 (fun v w => v = none ∧ ∃ M, w = gx_w ad (gm_h dA ad (va_up mm im M) r) ∧ mb_iv M (pu_mk a nv))) := by
    intro m
    induction m with
    | zero =>
      intro q M hq hI
      refine gx_iload_n C 0 dd_WM_buildPushed_123 (kk := ?_)
      refine gx_aload_n C 2 dd_WM_buildPushed_124 (kk := ?_)
      refine gm_get C fd_WM_108 hia dd_WM_buildPushed_125 (kk := ?_)
      refine gx_topi (nI (am_ar a).length) (by rw [gm_un hna]; exact hMa.2.2.2.1) ?_
      refine gx_icmp_ge C 220 dd_WM_buildPushed_128 (fun h128 => ?_) (fun h128 => absurd (nI_le (a := (am_ar a).length) (b := q) (by omega) (by omega)) h128)
      refine gx_vret C dd_WM_buildPushed_220 ?_
      rw [show q = (am_ar a).length by omega] at hI
      exact ⟨rfl, M, rfl, hI⟩
    | succ m ih =>
      intro q M hq hI
      obtain ⟨x, hx⟩ : ∃ x, (am_ar a)[q]? = some x := ⟨_, List.getElem?_eq_getElem (by omega)⟩
      have hxm := List.mem_of_getElem? hx
      obtain ⟨hx1, hx2⟩ := hMa.2.2.2.2 _ _ hx
      obtain ⟨hxb, hxw⟩ := hok.1.2.2.1 x hxm
      have hxn := hok.2.2.1 x hxm
      refine gx_iload_n C 0 dd_WM_buildPushed_123 (kk := ?_)
      refine gx_aload_n C 2 dd_WM_buildPushed_124 (kk := ?_)
      refine gm_get C fd_WM_108 hia dd_WM_buildPushed_125 (kk := ?_)
      refine gx_topi (nI (am_ar a).length) (by rw [gm_un hna]; exact hMa.2.2.2.1) ?_
      refine gx_icmp_ge C 220 dd_WM_buildPushed_128 (fun h128 => absurd h128 (nI_ge (by omega) (by omega))) (fun h128 => ?_)
      refine gx_aload_n C 2 dd_WM_buildPushed_131 (kk := ?_)
      refine gm_get C fd_WM_186 hia dd_WM_buildPushed_132 (kk := ?_)
      refine gx_iload_n C 0 dd_WM_buildPushed_135 (kk := ?_)
      refine gm_ln_k C hia dd_WM_buildPushed_136 (by omega) (kk := ?_)
      refine gx_topi (nI x.1) (by rw [gm_un hna]; exact hx1) ?_
      refine gx_callS C (ct_WM_fromOf (gx_l K) D dA _ x.1 (by omega)) me_WM_fromOf ml_WM_217 ms_WM_fromOf dd_WM_buildPushed_137 (kk := fun v w hq => ?_)
      obtain ⟨rfl, rfl⟩ := hq
      refine gx_istore_n C _ dd_WM_buildPushed_140 (kk := ?_)
      refine gx_aload_n C 3 dd_WM_buildPushed_141 (kk := ?_)
      refine gm_get C fd_WM_186 hia dd_WM_buildPushed_142 (kk := ?_)
      refine gx_iload_n C 1 dd_WM_buildPushed_145 (kk := ?_)
      refine gm_ln_k C hia dd_WM_buildPushed_146 (by omega) (kk := ?_)
      refine gx_topi (nI x.1) (by rw [gm_un hna]; exact hx1) ?_
      refine gx_callS C (ct_WM_toOf (gx_l K) D dA _ x.1 (by omega)) me_WM_toOf ml_WM_220 ms_WM_toOf dd_WM_buildPushed_147 (kk := fun v w hq => ?_)
      obtain ⟨rfl, rfl⟩ := hq
      refine gx_istore C _ dd_WM_buildPushed_150 (kk := ?_)
      refine gx_aload_n C 3 dd_WM_buildPushed_152 (kk := ?_)
      refine gx_get C fd_WM_44 (gm_r hc0) dd_WM_buildPushed_153 (kk := ?_)
      refine gx_iload_n C 1 dd_WM_buildPushed_156 (kk := ?_)
      refine gx_callV C (ct_On_isThere (gx_l K) D dA ad (va_up mm im M) r hc29 hc30 (q := x.1 / 1024) (o := nv (x.1 / 1024)) (by omega) (hf _ (by omega)) (fun c hc => by have := hvb _ _ hc; omega)) me_On_isThere ml_WM_153 mn_On_isThere _ (gx_w_at (by decide) (gm_r hc29)) rfl dd_WM_buildPushed_157 (kk := fun v w hq => ?_)
      obtain ⟨rfl, rfl⟩ := hq
      rcases hc : nv (x.1 / 1024) with _ | c
      · refine gx_if_eq C 214 dd_WM_buildPushed_160 (fun h160 => ?_) (fun h160 => absurd rfl h160)
        refine gx_iinc C 2 (nI (q + 1)) _ dd_WM_buildPushed_214 (nI_1 q) (kk := ?_)
        refine gx_goto C 123 dd_WM_buildPushed_217 (kk := ?_)
        refine gx_loc [0, 3, 4] ?_
        exact ih (q + 1) M (by omega) (by rw [pu_ar_n hx (by unfold pu_i; rw [hc])]; exact hI)
      · refine gx_if_eq C 214 dd_WM_buildPushed_160 (fun h160 => absurd (show true = false from fb_0.mp h160) (by decide)) (fun h160 => ?_)
        refine gx_aload_n C 3 dd_WM_buildPushed_163 (kk := ?_)
        refine gx_get C fd_WM_44 (gm_r hc0) dd_WM_buildPushed_164 (kk := ?_)
        refine gx_iload C 0 dd_WM_buildPushed_167 (kk := ?_)
        refine gx_callV C (ct_On_isThere (gx_l K) D dA ad (va_up mm im M) r hc29 hc30 (q := x.1 % 16) (o := nv (x.1 % 16)) (by omega) (hf _ (by omega)) (fun c hc => by have := hvb _ _ hc; omega)) me_On_isThere ml_WM_153 mn_On_isThere _ (gx_w_at (by decide) (gm_r hc29)) rfl dd_WM_buildPushed_169 (kk := fun v w hq => ?_)
        obtain ⟨rfl, rfl⟩ := hq
        rcases hd : nv (x.1 % 16) with _ | d
        · refine gx_if_eq C 214 dd_WM_buildPushed_172 (fun h172 => ?_) (fun h172 => absurd rfl h172)
          refine gx_iinc C 2 (nI (q + 1)) _ dd_WM_buildPushed_214 (nI_1 q) (kk := ?_)
          refine gx_goto C 123 dd_WM_buildPushed_217 (kk := ?_)
          refine gx_loc [0, 3, 4] ?_
          exact ih (q + 1) M (by omega) (by rw [pu_ar_n hx (by unfold pu_i; rw [hc, hd])]; exact hI)
        · refine gx_if_eq C 214 dd_WM_buildPushed_172 (fun h172 => absurd (show true = false from fb_0.mp h172) (by decide)) (fun h172 => ?_)
          refine gx_aload_n C 3 dd_WM_buildPushed_175 (kk := ?_)
          refine gx_get C fd_WM_16 (gm_r hc0) dd_WM_buildPushed_176 (kk := ?_)
          refine gx_aload_n C 4 dd_WM_buildPushed_179 (kk := ?_)
          refine gm_get C fd_WM_186 hia dd_WM_buildPushed_180 (kk := ?_)
          refine gx_iload_n C 2 dd_WM_buildPushed_183 (kk := ?_)
          refine gm_ln_k C hia dd_WM_buildPushed_184 (by omega) (kk := ?_)
          refine gx_topi (nI x.1) (by rw [gm_un hna]; exact hx1) ?_
          refine gx_aload_n C 4 dd_WM_buildPushed_185 (kk := ?_)
          refine gm_get C fd_WM_187 hia dd_WM_buildPushed_186 (kk := ?_)
          refine gx_iload_n C 2 dd_WM_buildPushed_189 (kk := ?_)
          refine gm_ln_g C hia dd_WM_buildPushed_190 (by omega) (kk := ?_)
          refine gx_topl (lN x.2) (by rw [gm_un hna]; exact hx2) ?_
          refine gx_aload_n C 3 dd_WM_buildPushed_191 (kk := ?_)
          refine gx_get C fd_WM_44 (gm_r hc0) dd_WM_buildPushed_192 (kk := ?_)
          refine gx_iload C 0 dd_WM_buildPushed_195 (kk := ?_)
          refine gx_callV C (ct_On_weightOf (gx_l K) D dA ad (va_up mm im M) r hc29 hc30 (q := x.1 % 16) (c := d) (by omega) (by rw [hf _ (by omega), hd]; rfl) (by have := hvb _ _ hd; omega)) me_On_weightOf ml_WM_164 mn_On_weightOf _ (gx_w_at (by decide) (gm_r hc29)) rfl dd_WM_buildPushed_197 (kk := fun v w hq => ?_)
          obtain ⟨rfl, rfl⟩ := hq
          refine gx_ladd C dd_WM_buildPushed_200 (kk := ?_)
          refine gx_topl (lN (x.2 + d / 32)) (lN_add _ _) ?_
          refine gx_aload_n C 3 dd_WM_buildPushed_201 (kk := ?_)
          refine gx_get C fd_WM_44 (gm_r hc0) dd_WM_buildPushed_202 (kk := ?_)
          refine gx_iload_n C 1 dd_WM_buildPushed_205 (kk := ?_)
          refine gx_callV C (ct_On_weightOf (gx_l K) D dA ad (va_up mm im M) r hc29 hc30 (q := x.1 / 1024) (c := c) (by omega) (by rw [hf _ (by omega), hc]; rfl) (by have := hvb _ _ hc; omega)) me_On_weightOf ml_WM_164 mn_On_weightOf _ (gx_w_at (by decide) (gm_r hc29)) rfl dd_WM_buildPushed_206 (kk := fun v w hq => ?_)
          obtain ⟨rfl, rfl⟩ := hq
          have hnn := pu_nn hok hfix hxm hc hd
          have hcb := hvb _ _ hc
          have hdb := hvb _ _ hd
          refine gx_lsub C dd_WM_buildPushed_209 (kk := ?_)
          refine gx_topl (lN (x.2 + d / 32 - c / 32)) (lN_sub hnn) ?_
          refine gx_callV C (ct_Ma_bring (gx_l K) D dA ad (va_up mm im M) r (key := x.1) (x0 := x.2 + d / 32 - c / 32) (B := 35184372088832) him (by rw [gm_us]; exact hI.1) hI.2.1 hI.2.2 (by decide) (by omega) (by omega)) me_Ma_bring ml_WM_104 mn_Ma_bring _ (gx_w_at (by omega) (gm_at (j := 0) him (by decide))) rfl dd_WM_buildPushed_210 (kk := fun v w hq => ?_)
          have hy : pu_i nv x = some (x.1, x.2 + d / 32 - c / 32) := by unfold pu_i; rw [hc, hd]
          rcases hq with ⟨hr, rfl, M2, rfl, hM2⟩ | ⟨hr, rfl, rfl⟩
          · rw [gm_uu]
            have hI2 := mb_br2 hI (x.1, x.2 + d / 32 - c / 32) hr hM2 (by show x.1 < _; omega) (by show x.2 + d / 32 - c / 32 < _; omega)
            refine gx_pop C dd_WM_buildPushed_213 (kk := ?_)
            refine gx_iinc C 2 (nI (q + 1)) _ dd_WM_buildPushed_214 (nI_1 q) (kk := ?_)
            refine gx_goto C 123 dd_WM_buildPushed_217 (kk := ?_)
            refine gx_loc [0, 3, 4] ?_
            exact ih (q + 1) M2 (by omega) (by rw [pu_ar_y hx hy]; exact hI2)
          · have hI2 := mb_br hI (x.1, x.2 + d / 32 - c / 32) hr
            refine gx_pop C dd_WM_buildPushed_213 (kk := ?_)
            refine gx_iinc C 2 (nI (q + 1)) _ dd_WM_buildPushed_214 (nI_1 q) (kk := ?_)
            refine gx_goto C 123 dd_WM_buildPushed_217 (kk := ?_)
            refine gx_loc [0, 3, 4] ?_
            exact ih (q + 1) M (by omega) (by rw [pu_ar_y hx hy]; exact hI2)
  have loop1 : ∀ m q M, q + m = am_n a → mb_iv M (am_n a, none, pu_es a nv q, []) → gx_G K D 5 0 0 13 [(2, .int (nI q)), (0, .ref (ad 0)), (1, .ref (ad (2 + 4 * ia)))] [] (gx_w ad (gm_h dA ad (va_up mm im M) r)) (gx_Z K D dA 0 0 (fun v w => v = none ∧ ∃ M, w = gx_w ad (gm_h dA ad (va_up mm im M) r) ∧ mb_iv M (pu_mk a nv))) := by
    intro m
    induction m with
    | zero =>
      intro q M hq hI
      refine gx_iload_n C 0 dd_WM_buildPushed_13 (kk := ?_)
      refine gx_aload_n C 2 dd_WM_buildPushed_14 (kk := ?_)
      refine gm_get C fd_WM_120 hia dd_WM_buildPushed_15 (kk := ?_)
      refine gx_topi (nI (am_n a)) (by rw [gm_un hna]; exact hMa.1) ?_
      refine gx_icmp_ge C 64 dd_WM_buildPushed_18 (fun h18 => ?_) (fun h18 => absurd (nI_le (a := am_n a) (b := q) (by omega) (by omega)) h18)
      rw [show q = am_n a by omega] at hI
      rcases hst : am_st a with _ | s0
      · have hsq := hMa.2.1
        rw [hst] at hsq
        refine gx_aload_n C 2 dd_WM_buildPushed_64 (kk := ?_)
        refine gm_get C fd_WM_150 hia dd_WM_buildPushed_65 (kk := ?_)
        refine gx_topi (-1) (by rw [gm_un hna]; exact hsq.1) ?_
        refine gx_iconst (v := -1) C dd_WM_buildPushed_68 (kk := ?_)
        refine gx_icmp_eq C 121 dd_WM_buildPushed_69 (fun h69 => ?_) (fun h69 => absurd rfl h69)
        refine gx_iconst (v := nI 0) C dd_WM_buildPushed_121 (kk := ?_)
        refine gx_istore_n C _ dd_WM_buildPushed_122 (kk := ?_)
        exact loop3 (am_ar a).length 0 M (by omega) (by rw [pu_st, hst]; exact hI)
      · have hsq := hMa.2.1
        rw [hst] at hsq
        have hs0 := hok.1.2.2.2.2 s0 hst
        have hs1 := hok.2.2.2.1 s0 hst
        refine gx_aload_n C 2 dd_WM_buildPushed_64 (kk := ?_)
        refine gm_get C fd_WM_150 hia dd_WM_buildPushed_65 (kk := ?_)
        refine gx_topi (nI s0.1) (by rw [gm_un hna]; exact hsq.1) ?_
        refine gx_iconst (v := -1) C dd_WM_buildPushed_68 (kk := ?_)
        refine gx_icmp_eq C 121 dd_WM_buildPushed_69 (fun h69 => absurd h69 (nI_m1 (by omega))) (fun h69 => ?_)
        refine gx_aload_n C 1 dd_WM_buildPushed_72 (kk := ?_)
        refine gx_get C fd_WM_44 (gm_r hc0) dd_WM_buildPushed_73 (kk := ?_)
        refine gx_aload_n C 2 dd_WM_buildPushed_76 (kk := ?_)
        refine gm_get C fd_WM_150 hia dd_WM_buildPushed_77 (kk := ?_)
        refine gx_topi (nI s0.1) (by rw [gm_un hna]; exact hsq.1) ?_
        refine gx_callV C (ct_On_isThere (gx_l K) D dA ad (va_up mm im M) r hc29 hc30 (q := s0.1) (o := nv (s0.1)) (by omega) (hf _ (by omega)) (fun c hc => by have := hvb _ _ hc; omega)) me_On_isThere ml_WM_153 mn_On_isThere _ (gx_w_at (by decide) (gm_r hc29)) rfl dd_WM_buildPushed_80 (kk := fun v w hq => ?_)
        obtain ⟨rfl, rfl⟩ := hq
        rcases hc : nv s0.1 with _ | c
        · refine gx_istore_n C _ dd_WM_buildPushed_83 (kk := ?_)
          refine gx_iload_n C 0 dd_WM_buildPushed_84 (kk := ?_)
          refine gx_if_eq C 102 dd_WM_buildPushed_85 (fun h85 => ?_) (fun h85 => absurd rfl h85)
          refine gx_lconst (v := lN 0) C dd_WM_buildPushed_102 (kk := ?_)
          refine gx_lstore_n C _ dd_WM_buildPushed_103 (kk := ?_)
          refine gx_aload_n C 2 dd_WM_buildPushed_104 (kk := ?_)
          refine gx_get C fd_WM_16 (gm_r hc0) dd_WM_buildPushed_105 (kk := ?_)
          refine gx_aload_n C 3 dd_WM_buildPushed_108 (kk := ?_)
          refine gm_get C fd_WM_150 hia dd_WM_buildPushed_109 (kk := ?_)
          refine gx_topi (nI s0.1) (by rw [gm_un hna]; exact hsq.1) ?_
          refine gx_aload_n C 3 dd_WM_buildPushed_112 (kk := ?_)
          refine gm_get C fd_WM_160 hia dd_WM_buildPushed_113 (kk := ?_)
          refine gx_topl (lN s0.2) (by rw [gm_un hna]; exact hsq.2) ?_
          refine gx_lload_n C 0 dd_WM_buildPushed_116 (kk := ?_)
          refine gx_ladd C dd_WM_buildPushed_117 (kk := ?_)
          refine gx_topl (lN (s0.2 + 0)) (lN_add _ 0) ?_
          refine gx_callV C (ct_Ma_setStart (gx_l K) D dA ad (va_up mm im M) r (i := im) him (nI s0.1) (lN (s0.2 + 0))) me_Ma_setStart ml_WM_92 mn_Ma_setStart _ (gx_w_at (by omega) (gm_at (j := 0) him (by decide))) rfl dd_WM_buildPushed_118 (kk := fun v w hq => ?_)
          obtain ⟨rfl, rfl⟩ := hq
          rw [gm_uu, gm_us]
          have hI2 := mb_st (q := s0.1) (w := s0.2 + 0) hI (by omega) (by omega)
          refine gx_iconst (v := nI 0) C dd_WM_buildPushed_121 (kk := ?_)
          refine gx_istore_n C _ dd_WM_buildPushed_122 (kk := ?_)
          refine gx_loc [0, 2, 3] ?_
          refine loop3 (am_ar a).length 0 _ (by omega) ?_
          rw [pu_st, hst]
          show mb_iv _ (am_n a, some (s0.1, s0.2 + pu_w (nv s0.1)), _, _)
          rw [hc]
          exact hI2
        · refine gx_istore_n C _ dd_WM_buildPushed_83 (kk := ?_)
          refine gx_iload_n C 0 dd_WM_buildPushed_84 (kk := ?_)
          refine gx_if_eq C 102 dd_WM_buildPushed_85 (fun h85 => absurd (show true = false from fb_0.mp h85) (by decide)) (fun h85 => ?_)
          refine gx_aload_n C 1 dd_WM_buildPushed_88 (kk := ?_)
          refine gx_get C fd_WM_44 (gm_r hc0) dd_WM_buildPushed_89 (kk := ?_)
          refine gx_aload_n C 2 dd_WM_buildPushed_92 (kk := ?_)
          refine gm_get C fd_WM_150 hia dd_WM_buildPushed_93 (kk := ?_)
          refine gx_topi (nI s0.1) (by rw [gm_un hna]; exact hsq.1) ?_
          refine gx_callV C (ct_On_weightOf (gx_l K) D dA ad (va_up mm im M) r hc29 hc30 (q := s0.1) (c := c) (by omega) (by rw [hf _ (by omega), hc]; rfl) (by have := hvb _ _ hc; omega)) me_On_weightOf ml_WM_164 mn_On_weightOf _ (gx_w_at (by decide) (gm_r hc29)) rfl dd_WM_buildPushed_96 (kk := fun v w hq => ?_)
          obtain ⟨rfl, rfl⟩ := hq
          refine gx_goto C 103 dd_WM_buildPushed_99 (kk := ?_)
          refine gx_lstore_n C _ dd_WM_buildPushed_103 (kk := ?_)
          refine gx_aload_n C 2 dd_WM_buildPushed_104 (kk := ?_)
          refine gx_get C fd_WM_16 (gm_r hc0) dd_WM_buildPushed_105 (kk := ?_)
          refine gx_aload_n C 3 dd_WM_buildPushed_108 (kk := ?_)
          refine gm_get C fd_WM_150 hia dd_WM_buildPushed_109 (kk := ?_)
          refine gx_topi (nI s0.1) (by rw [gm_un hna]; exact hsq.1) ?_
          refine gx_aload_n C 3 dd_WM_buildPushed_112 (kk := ?_)
          refine gm_get C fd_WM_160 hia dd_WM_buildPushed_113 (kk := ?_)
          refine gx_topl (lN s0.2) (by rw [gm_un hna]; exact hsq.2) ?_
          refine gx_lload_n C 0 dd_WM_buildPushed_116 (kk := ?_)
          refine gx_ladd C dd_WM_buildPushed_117 (kk := ?_)
          refine gx_topl (lN (s0.2 + c / 32)) (lN_add _ _) ?_
          refine gx_callV C (ct_Ma_setStart (gx_l K) D dA ad (va_up mm im M) r (i := im) him (nI s0.1) (lN (s0.2 + c / 32))) me_Ma_setStart ml_WM_92 mn_Ma_setStart _ (gx_w_at (by omega) (gm_at (j := 0) him (by decide))) rfl dd_WM_buildPushed_118 (kk := fun v w hq => ?_)
          obtain ⟨rfl, rfl⟩ := hq
          rw [gm_uu, gm_us]
          have hI2 := mb_st (q := s0.1) (w := s0.2 + c / 32) hI (by omega) (by have := hvb _ _ hc; omega)
          refine gx_iconst (v := nI 0) C dd_WM_buildPushed_121 (kk := ?_)
          refine gx_istore_n C _ dd_WM_buildPushed_122 (kk := ?_)
          refine gx_loc [0, 2, 3] ?_
          refine loop3 (am_ar a).length 0 _ (by omega) ?_
          rw [pu_st, hst]
          show mb_iv _ (am_n a, some (s0.1, s0.2 + pu_w (nv s0.1)), _, _)
          rw [hc]
          exact hI2
    | succ m ih =>
      intro q M hq hI
      refine gx_iload_n C 0 dd_WM_buildPushed_13 (kk := ?_)
      refine gx_aload_n C 2 dd_WM_buildPushed_14 (kk := ?_)
      refine gm_get C fd_WM_120 hia dd_WM_buildPushed_15 (kk := ?_)
      refine gx_topi (nI (am_n a)) (by rw [gm_un hna]; exact hMa.1) ?_
      refine gx_icmp_ge C 64 dd_WM_buildPushed_18 (fun h18 => absurd h18 (nI_ge (by omega) (by omega))) (fun h18 => ?_)
      refine gx_aload_n C 2 dd_WM_buildPushed_21 (kk := ?_)
      refine gm_get C fd_WM_96 hia dd_WM_buildPushed_22 (kk := ?_)
      refine gx_iload_n C 0 dd_WM_buildPushed_25 (kk := ?_)
      refine gm_ln_e C hia dd_WM_buildPushed_26 (by omega) (kk := ?_)
      refine gx_topl (am_e (am_en a q)) (by rw [gm_un hna]; exact hMa.2.2.1 q (by omega)) ?_
      refine gx_ldc2 C dd_WM_buildPushed_27 kc_WM_144 (kk := ?_)
      rcases he : am_en a q with _ | e
      · refine gx_lcmp C dd_WM_buildPushed_30 (kk := ?_)
        refine gx_if_eq C 58 dd_WM_buildPushed_31 (fun h31 => ?_) (fun h31 => absurd (by rw [lc_eq]; rfl) h31)
        refine gx_iinc C 0 (nI (q + 1)) _ dd_WM_buildPushed_58 (nI_1 q) (kk := ?_)
        refine gx_goto C 13 dd_WM_buildPushed_61 (kk := ?_)
        exact ih (q + 1) M (by omega) (by rw [pu_es_n he]; exact hI)
      · have heb := hok.1.2.2.2.1 q e he
        obtain ⟨c, hc, hce⟩ := pu_ne hfix (by omega) he
        refine gx_lcmp C dd_WM_buildPushed_30 (kk := ?_)
        refine gx_if_eq C 58 dd_WM_buildPushed_31 (fun h31 => absurd (lc_eq.mp h31) (lN_m1 (w := e) (by omega))) (fun h31 => ?_)
        refine gx_aload_n C 1 dd_WM_buildPushed_34 (kk := ?_)
        refine gx_get C fd_WM_16 (gm_r hc0) dd_WM_buildPushed_35 (kk := ?_)
        refine gm_get C fd_WM_96 him dd_WM_buildPushed_38 (kk := ?_)
        refine gx_iload_n C 0 dd_WM_buildPushed_41 (kk := ?_)
        refine gx_aload_n C 2 dd_WM_buildPushed_42 (kk := ?_)
        refine gm_get C fd_WM_96 hia dd_WM_buildPushed_43 (kk := ?_)
        refine gx_iload_n C 0 dd_WM_buildPushed_46 (kk := ?_)
        refine gm_ln_e C hia dd_WM_buildPushed_47 (by omega) (kk := ?_)
        refine gx_topl (am_e (am_en a q)) (by rw [gm_un hna]; exact hMa.2.2.1 q (by omega)) ?_
        refine gx_topl (lN e) (by rw [he]; rfl) ?_
        refine gx_aload_n C 1 dd_WM_buildPushed_48 (kk := ?_)
        refine gx_get C fd_WM_44 (gm_r hc0) dd_WM_buildPushed_49 (kk := ?_)
        refine gx_iload_n C 0 dd_WM_buildPushed_52 (kk := ?_)
        refine gx_callV C (ct_On_weightOf (gx_l K) D dA ad (va_up mm im M) r hc29 hc30 (q := q) (c := c) (by omega) (by rw [hf _ (by omega), hc]; rfl) (by have := hvb _ _ hc; omega)) me_On_weightOf ml_WM_164 mn_On_weightOf _ (gx_w_at (by decide) (gm_r hc29)) rfl dd_WM_buildPushed_53 (kk := fun v w hq => ?_)
        obtain ⟨rfl, rfl⟩ := hq
        refine gx_lsub C dd_WM_buildPushed_56 (kk := ?_)
        refine gx_topl (lN (e - c / 32)) (lN_sub hce) ?_
        refine gm_sn_eV C him dd_WM_buildPushed_57 (by omega) (kk := fun m2 hm2 hn2 hu2 => ?_)
        refine gx_iinc C 0 (nI (q + 1)) _ dd_WM_buildPushed_58 (nI_1 q) (kk := ?_)
        refine gx_goto C 13 dd_WM_buildPushed_61 (kk := ?_)
        rw [hu2, gm_uu]
        refine ih (q + 1) (m2 im) (by omega) ?_
        rw [hm2, gm_us, ← pu_es_y he, hc]
        exact mb_end hI rfl (fun e2 h2 => by cases h2; omega)
  refine gx_aload_n C 0 dd_WM_buildPushed_0 (kk := ?_)
  refine gx_get C fd_WM_16 (gm_r hc0) dd_WM_buildPushed_1 (kk := ?_)
  refine gx_aload_n C 1 dd_WM_buildPushed_4 (kk := ?_)
  refine gm_get C fd_WM_120 hia dd_WM_buildPushed_5 (kk := ?_)
  refine gx_topi _ hMa.1 ?_
  refine gx_callV C (ct_Ma_clear (gx_l K) D dA ad mm r (i := im) him (am_n a)) me_Ma_clear ml_WM_80 mn_Ma_clear _ (gx_w_at (by omega) (gm_at (j := 0) him (by decide))) rfl dd_WM_buildPushed_8 (kk := fun v w hq => ?_)
  obtain ⟨rfl, M, rfl, hM0⟩ := hq
  refine gx_iconst (v := nI 0) C dd_WM_buildPushed_11 (kk := ?_)
  refine gx_istore_n C _ dd_WM_buildPushed_12 (kk := ?_)
  refine loop1 (am_n a) 0 M (by omega) ?_
  rw [pu_es_0]
  exact ⟨hM0, am_b_0 _ (by omega), List.Pairwise.nil⟩
