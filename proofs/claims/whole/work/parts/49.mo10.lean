theorem dd_Mo_isFit_0 : decode cc_Mo_isFit 0 = .ok (.bipush 65, 2) := by decide +kernel
theorem dd_Mo_isFit_2 : decode cc_Mo_isFit 2 = .ok (.iload_n 1, 1) := by decide +kernel
theorem dd_Mo_isFit_3 : decode cc_Mo_isFit 3 = .ok (.imul, 1) := by decide +kernel
theorem dd_Mo_isFit_4 : decode cc_Mo_isFit 4 = .ok (.istore_n 2, 1) := by decide +kernel
theorem dd_Mo_isFit_5 : decode cc_Mo_isFit 5 = .ok (.iload_n 2, 1) := by decide +kernel
theorem dd_Mo_isFit_6 : decode cc_Mo_isFit 6 = .ok (.bipush 65, 2) := by decide +kernel
theorem dd_Mo_isFit_8 : decode cc_Mo_isFit 8 = .ok (.iload_n 1, 1) := by decide +kernel
theorem dd_Mo_isFit_9 : decode cc_Mo_isFit 9 = .ok (.imul, 1) := by decide +kernel
theorem dd_Mo_isFit_10 : decode cc_Mo_isFit 10 = .ok (.aload_n 0, 1) := by decide +kernel
theorem dd_Mo_isFit_11 : decode cc_Mo_isFit 11 = .ok (.getfield 23, 3) := by decide +kernel
theorem dd_Mo_isFit_14 : decode cc_Mo_isFit 14 = .ok (.iload_n 1, 1) := by decide +kernel
theorem dd_Mo_isFit_15 : decode cc_Mo_isFit 15 = .ok (.iaload, 1) := by decide +kernel
theorem dd_Mo_isFit_16 : decode cc_Mo_isFit 16 = .ok (.iadd, 1) := by decide +kernel
theorem dd_Mo_isFit_17 : decode cc_Mo_isFit 17 = .ok (.if_icmp .ge 35, 3) := by decide +kernel
theorem dd_Mo_isFit_20 : decode cc_Mo_isFit 20 = .ok (.aload_n 0, 1) := by decide +kernel
theorem dd_Mo_isFit_21 : decode cc_Mo_isFit 21 = .ok (.getfield 32, 3) := by decide +kernel
theorem dd_Mo_isFit_24 : decode cc_Mo_isFit 24 = .ok (.iload_n 2, 1) := by decide +kernel
theorem dd_Mo_isFit_25 : decode cc_Mo_isFit 25 = .ok (.iaload, 1) := by decide +kernel
theorem dd_Mo_isFit_26 : decode cc_Mo_isFit 26 = .ok (.ifCond .eq 18, 3) := by decide +kernel
theorem dd_Mo_isFit_29 : decode cc_Mo_isFit 29 = .ok (.aload_n 0, 1) := by decide +kernel
theorem dd_Mo_isFit_30 : decode cc_Mo_isFit 30 = .ok (.getfield 32, 3) := by decide +kernel
theorem dd_Mo_isFit_33 : decode cc_Mo_isFit 33 = .ok (.iload_n 2, 1) := by decide +kernel
theorem dd_Mo_isFit_34 : decode cc_Mo_isFit 34 = .ok (.iaload, 1) := by decide +kernel
theorem dd_Mo_isFit_35 : decode cc_Mo_isFit 35 = .ok (.aload_n 0, 1) := by decide +kernel
theorem dd_Mo_isFit_36 : decode cc_Mo_isFit 36 = .ok (.getfield 35, 3) := by decide +kernel
theorem dd_Mo_isFit_39 : decode cc_Mo_isFit 39 = .ok (.iload_n 2, 1) := by decide +kernel
theorem dd_Mo_isFit_40 : decode cc_Mo_isFit 40 = .ok (.iaload, 1) := by decide +kernel
theorem dd_Mo_isFit_41 : decode cc_Mo_isFit 41 = .ok (.if_icmp .eq 5, 3) := by decide +kernel
theorem dd_Mo_isFit_44 : decode cc_Mo_isFit 44 = .ok (.iconst 0, 1) := by decide +kernel
theorem dd_Mo_isFit_45 : decode cc_Mo_isFit 45 = .ok (.ireturn, 1) := by decide +kernel
theorem dd_Mo_isFit_46 : decode cc_Mo_isFit 46 = .ok (.iinc 2 1, 3) := by decide +kernel
theorem dd_Mo_isFit_49 : decode cc_Mo_isFit 49 = .ok (.goto (-44), 3) := by decide +kernel
theorem dd_Mo_isFit_52 : decode cc_Mo_isFit 52 = .ok (.iconst 0, 1) := by decide +kernel
theorem dd_Mo_isFit_53 : decode cc_Mo_isFit 53 = .ok (.istore_n 2, 1) := by decide +kernel
theorem dd_Mo_isFit_54 : decode cc_Mo_isFit 54 = .ok (.iload_n 2, 1) := by decide +kernel
theorem dd_Mo_isFit_55 : decode cc_Mo_isFit 55 = .ok (.aload_n 0, 1) := by decide +kernel
theorem dd_Mo_isFit_56 : decode cc_Mo_isFit 56 = .ok (.getfield 7, 3) := by decide +kernel
theorem dd_Mo_isFit_59 : decode cc_Mo_isFit 59 = .ok (.iload_n 1, 1) := by decide +kernel
theorem dd_Mo_isFit_60 : decode cc_Mo_isFit 60 = .ok (.iaload, 1) := by decide +kernel
theorem dd_Mo_isFit_61 : decode cc_Mo_isFit 61 = .ok (.if_icmp .ge 141, 3) := by decide +kernel
theorem dd_Mo_isFit_64 : decode cc_Mo_isFit 64 = .ok (.iconst 0, 1) := by decide +kernel
theorem dd_Mo_isFit_65 : decode cc_Mo_isFit 65 = .ok (.istore_n 3, 1) := by decide +kernel
theorem dd_Mo_isFit_66 : decode cc_Mo_isFit 66 = .ok (.iload_n 3, 1) := by decide +kernel
theorem dd_Mo_isFit_67 : decode cc_Mo_isFit 67 = .ok (.bipush 16, 2) := by decide +kernel
theorem dd_Mo_isFit_69 : decode cc_Mo_isFit 69 = .ok (.if_icmp .ge 16, 3) := by decide +kernel
theorem dd_Mo_isFit_72 : decode cc_Mo_isFit 72 = .ok (.aload_n 0, 1) := by decide +kernel
theorem dd_Mo_isFit_73 : decode cc_Mo_isFit 73 = .ok (.getfield 56, 3) := by decide +kernel
theorem dd_Mo_isFit_76 : decode cc_Mo_isFit 76 = .ok (.iload_n 3, 1) := by decide +kernel
theorem dd_Mo_isFit_77 : decode cc_Mo_isFit 77 = .ok (.iconst 0, 1) := by decide +kernel
theorem dd_Mo_isFit_78 : decode cc_Mo_isFit 78 = .ok (.bastore, 1) := by decide +kernel
theorem dd_Mo_isFit_79 : decode cc_Mo_isFit 79 = .ok (.iinc 3 1, 3) := by decide +kernel
theorem dd_Mo_isFit_82 : decode cc_Mo_isFit 82 = .ok (.goto (-16), 3) := by decide +kernel
theorem dd_Mo_isFit_85 : decode cc_Mo_isFit 85 = .ok (.iconst 0, 1) := by decide +kernel
theorem dd_Mo_isFit_86 : decode cc_Mo_isFit 86 = .ok (.istore_n 3, 1) := by decide +kernel
theorem dd_Mo_isFit_87 : decode cc_Mo_isFit 87 = .ok (.iload_n 3, 1) := by decide +kernel
theorem dd_Mo_isFit_88 : decode cc_Mo_isFit 88 = .ok (.bipush 16, 2) := by decide +kernel
theorem dd_Mo_isFit_90 : decode cc_Mo_isFit 90 = .ok (.if_icmp .ge 95, 3) := by decide +kernel
theorem dd_Mo_isFit_93 : decode cc_Mo_isFit 93 = .ok (.bipush 65, 2) := by decide +kernel
theorem dd_Mo_isFit_95 : decode cc_Mo_isFit 95 = .ok (.iload_n 1, 1) := by decide +kernel
theorem dd_Mo_isFit_96 : decode cc_Mo_isFit 96 = .ok (.imul, 1) := by decide +kernel
theorem dd_Mo_isFit_97 : decode cc_Mo_isFit 97 = .ok (.istore 4, 2) := by decide +kernel
theorem dd_Mo_isFit_99 : decode cc_Mo_isFit 99 = .ok (.iload 4, 2) := by decide +kernel
theorem dd_Mo_isFit_101 : decode cc_Mo_isFit 101 = .ok (.bipush 65, 2) := by decide +kernel
theorem dd_Mo_isFit_103 : decode cc_Mo_isFit 103 = .ok (.iload_n 1, 1) := by decide +kernel
theorem dd_Mo_isFit_104 : decode cc_Mo_isFit 104 = .ok (.imul, 1) := by decide +kernel
theorem dd_Mo_isFit_105 : decode cc_Mo_isFit 105 = .ok (.aload_n 0, 1) := by decide +kernel
theorem dd_Mo_isFit_106 : decode cc_Mo_isFit 106 = .ok (.getfield 23, 3) := by decide +kernel
theorem dd_Mo_isFit_109 : decode cc_Mo_isFit 109 = .ok (.iload_n 1, 1) := by decide +kernel
theorem dd_Mo_isFit_110 : decode cc_Mo_isFit 110 = .ok (.iaload, 1) := by decide +kernel
theorem dd_Mo_isFit_111 : decode cc_Mo_isFit 111 = .ok (.iadd, 1) := by decide +kernel
theorem dd_Mo_isFit_112 : decode cc_Mo_isFit 112 = .ok (.if_icmp .ge 67, 3) := by decide +kernel
theorem dd_Mo_isFit_115 : decode cc_Mo_isFit 115 = .ok (.aload_n 0, 1) := by decide +kernel
theorem dd_Mo_isFit_116 : decode cc_Mo_isFit 116 = .ok (.getfield 56, 3) := by decide +kernel
theorem dd_Mo_isFit_119 : decode cc_Mo_isFit 119 = .ok (.aload_n 0, 1) := by decide +kernel
theorem dd_Mo_isFit_120 : decode cc_Mo_isFit 120 = .ok (.getfield 29, 3) := by decide +kernel
theorem dd_Mo_isFit_123 : decode cc_Mo_isFit 123 = .ok (.iload 4, 2) := by decide +kernel
theorem dd_Mo_isFit_125 : decode cc_Mo_isFit 125 = .ok (.iaload, 1) := by decide +kernel
theorem dd_Mo_isFit_126 : decode cc_Mo_isFit 126 = .ok (.aload_n 0, 1) := by decide +kernel
theorem dd_Mo_isFit_127 : decode cc_Mo_isFit 127 = .ok (.getfield 56, 3) := by decide +kernel
theorem dd_Mo_isFit_130 : decode cc_Mo_isFit 130 = .ok (.aload_n 0, 1) := by decide +kernel
theorem dd_Mo_isFit_131 : decode cc_Mo_isFit 131 = .ok (.getfield 29, 3) := by decide +kernel
theorem dd_Mo_isFit_134 : decode cc_Mo_isFit 134 = .ok (.iload 4, 2) := by decide +kernel
theorem dd_Mo_isFit_136 : decode cc_Mo_isFit 136 = .ok (.iaload, 1) := by decide +kernel
theorem dd_Mo_isFit_137 : decode cc_Mo_isFit 137 = .ok (.baload, 1) := by decide +kernel
theorem dd_Mo_isFit_138 : decode cc_Mo_isFit 138 = .ok (.ifCond .ne 29, 3) := by decide +kernel
theorem dd_Mo_isFit_141 : decode cc_Mo_isFit 141 = .ok (.aload_n 0, 1) := by decide +kernel
theorem dd_Mo_isFit_142 : decode cc_Mo_isFit 142 = .ok (.getfield 26, 3) := by decide +kernel
theorem dd_Mo_isFit_145 : decode cc_Mo_isFit 145 = .ok (.iload 4, 2) := by decide +kernel
theorem dd_Mo_isFit_147 : decode cc_Mo_isFit 147 = .ok (.iaload, 1) := by decide +kernel
theorem dd_Mo_isFit_148 : decode cc_Mo_isFit 148 = .ok (.iload_n 2, 1) := by decide +kernel
theorem dd_Mo_isFit_149 : decode cc_Mo_isFit 149 = .ok (.if_icmp .eq 18, 3) := by decide +kernel
theorem dd_Mo_isFit_152 : decode cc_Mo_isFit 152 = .ok (.aload_n 0, 1) := by decide +kernel
theorem dd_Mo_isFit_153 : decode cc_Mo_isFit 153 = .ok (.getfield 56, 3) := by decide +kernel
theorem dd_Mo_isFit_156 : decode cc_Mo_isFit 156 = .ok (.aload_n 0, 1) := by decide +kernel
theorem dd_Mo_isFit_157 : decode cc_Mo_isFit 157 = .ok (.getfield 26, 3) := by decide +kernel
theorem dd_Mo_isFit_160 : decode cc_Mo_isFit 160 = .ok (.iload 4, 2) := by decide +kernel
theorem dd_Mo_isFit_162 : decode cc_Mo_isFit 162 = .ok (.iaload, 1) := by decide +kernel
theorem dd_Mo_isFit_163 : decode cc_Mo_isFit 163 = .ok (.baload, 1) := by decide +kernel
theorem dd_Mo_isFit_164 : decode cc_Mo_isFit 164 = .ok (.ifCond .eq 7, 3) := by decide +kernel
theorem dd_Mo_isFit_167 : decode cc_Mo_isFit 167 = .ok (.iconst 1, 1) := by decide +kernel
theorem dd_Mo_isFit_168 : decode cc_Mo_isFit 168 = .ok (.goto 4, 3) := by decide +kernel
theorem dd_Mo_isFit_171 : decode cc_Mo_isFit 171 = .ok (.iconst 0, 1) := by decide +kernel
theorem dd_Mo_isFit_172 : decode cc_Mo_isFit 172 = .ok (.bastore, 1) := by decide +kernel
theorem dd_Mo_isFit_173 : decode cc_Mo_isFit 173 = .ok (.iinc 4 1, 3) := by decide +kernel
theorem dd_Mo_isFit_176 : decode cc_Mo_isFit 176 = .ok (.goto (-77), 3) := by decide +kernel
theorem dd_Mo_isFit_179 : decode cc_Mo_isFit 179 = .ok (.iinc 3 1, 3) := by decide +kernel
theorem dd_Mo_isFit_182 : decode cc_Mo_isFit 182 = .ok (.goto (-95), 3) := by decide +kernel
theorem dd_Mo_isFit_185 : decode cc_Mo_isFit 185 = .ok (.aload_n 0, 1) := by decide +kernel
theorem dd_Mo_isFit_186 : decode cc_Mo_isFit 186 = .ok (.getfield 56, 3) := by decide +kernel
theorem dd_Mo_isFit_189 : decode cc_Mo_isFit 189 = .ok (.iload_n 2, 1) := by decide +kernel
theorem dd_Mo_isFit_190 : decode cc_Mo_isFit 190 = .ok (.baload, 1) := by decide +kernel
theorem dd_Mo_isFit_191 : decode cc_Mo_isFit 191 = .ok (.ifCond .eq 5, 3) := by decide +kernel
theorem dd_Mo_isFit_194 : decode cc_Mo_isFit 194 = .ok (.iconst 0, 1) := by decide +kernel
theorem dd_Mo_isFit_195 : decode cc_Mo_isFit 195 = .ok (.ireturn, 1) := by decide +kernel
theorem dd_Mo_isFit_196 : decode cc_Mo_isFit 196 = .ok (.iinc 2 1, 3) := by decide +kernel
theorem dd_Mo_isFit_199 : decode cc_Mo_isFit 199 = .ok (.goto (-145), 3) := by decide +kernel
theorem dd_Mo_isFit_202 : decode cc_Mo_isFit 202 = .ok (.iconst 1, 1) := by decide +kernel
theorem dd_Mo_isFit_203 : decode cc_Mo_isFit 203 = .ok (.ireturn, 1) := by decide +kernel
/-! CYCLES -/
def pth (l : List (Nat × Nat)) : Nat → Nat → Nat → Prop
  | 0, s, t => s = t
  | k + 1, s, t => ∃ x ∈ l, x.1 / 1024 = s ∧ pth l k (x.1 % 16) t
theorem pth_snoc {l : List (Nat × Nat)} {x : Nat × Nat} (hx : x ∈ l) : ∀ k s, pth l k s (x.1 / 1024) → pth l (k + 1) s (x.1 % 16)
  | 0, s, h => ⟨x, hx, Eq.symm h, rfl⟩
  | k + 1, s, ⟨y, hy, hs, h⟩ => ⟨y, hy, hs, pth_snoc hx k _ h⟩
theorem wk_pth {l : List (Nat × Nat)} {n : Nat} : ∀ k s m t, pth l k s t → am_wk l n m t → am_wk l n (k + m) s
  | 0, s, m, t, h, hw => by
    have h : s = t := h
    subst h
    rw [Nat.zero_add]
    exact hw
  | k + 1, s, m, t, ⟨x, hx, hs, h⟩, hw => by
    rw [Nat.succ_add]
    exact ⟨x, hx, hs, wk_pth k _ m t h hw⟩
theorem wk_sub {l : List (Nat × Nat)} {n : Nat} (hl : ∀ x ∈ l, x.1 / 1024 < n ∧ x.1 % 16 < n) : ∀ k m s, am_wk l n (k + m) s → am_wk l n k s
  | 0, m, s, h => am_wk_lt hl _ s h
  | k + 1, m, s, h => by
    rw [Nat.succ_add] at h
    obtain ⟨x, hx, hs, h⟩ := h
    exact ⟨x, hx, hs, wk_sub hl k m _ h⟩
theorem wk_cyc {l : List (Nat × Nat)} {n j q : Nat} (hq : q < n) (h : pth l (j + 1) q q) : ∀ m, am_wk l n ((j + 1) * m) q
  | 0 => hq
  | m + 1 => by
    rw [Nat.mul_succ, Nat.add_comm]
    exact wk_pth _ _ _ _ h (wk_cyc hq h m)
theorem wk_rep {l : List (Nat × Nat)} {n : Nat} (hl : ∀ x ∈ l, x.1 / 1024 < n ∧ x.1 % 16 < n) : ∀ k s, am_wk l n k s → (∃ q, q < n ∧ ∃ j, pth l (j + 1) q q) ∨ (s < n ∧ ∃ L : List Nat, L.length = k + 1 ∧ L.Nodup ∧ ∀ z ∈ L, z < n ∧ ∃ j, pth l j s z)
  | 0, s, h => Or.inr ⟨h, [s], rfl, by simp, fun z hz => by
      rw [List.mem_singleton.mp hz]
      exact ⟨h, 0, rfl⟩⟩
  | k + 1, s, ⟨x, hx, hs, h⟩ => by
    rcases wk_rep hl k _ h with h1 | ⟨ht, L, hL, hN, hz⟩
    · exact Or.inl h1
    · by_cases hm : s ∈ L
      · obtain ⟨hsn, j, hj⟩ := hz s hm
        exact Or.inl ⟨s, hsn, j, x, hx, hs, hj⟩
      · have hsn : s < n := hs ▸ (hl x hx).1
        · refine Or.inr ⟨hsn, s :: L, by simp [hL], List.nodup_cons.mpr ⟨hm, hN⟩, fun z hz2 => ?_⟩
          rcases List.mem_cons.mp hz2 with rfl | hz2
          · exact ⟨hsn, 0, rfl⟩
          · obtain ⟨h1, j, hj⟩ := hz z hz2
            exact ⟨h1, j + 1, x, hx, hs, hj⟩
theorem mf_fit {a : am_T} (h : am_ok a) : am_fitd a ↔ am_cl (am_ar a) = true ∧ ∀ q, q < am_n a → ¬ ∃ j, pth (am_ar a) (j + 1) q q := by
  unfold am_fitd
  refine and_congr_right fun _ => ⟨fun h1 q hq ⟨j, hj⟩ => h1 ⟨q, ?_⟩, fun h1 ⟨s, hs⟩ => ?_⟩
  · have h2 := wk_cyc hq hj (am_n a)
    have h3 : (j + 1) * am_n a = am_n a + j * am_n a := by rw [Nat.succ_mul, Nat.add_comm]
    rw [h3] at h2
    exact wk_sub h.2.2.1 _ _ _ h2
  · rcases wk_rep h.2.2.1 _ _ hs with ⟨q, hq, j, hj⟩ | ⟨-, L, hL, hN, hz⟩
    · exact h1 q hq ⟨j, hj⟩
    · have := ls_pig hN (fun z hz2 => (hz z hz2).1)
      omega
/-- what the reference marks, from q on: 16 stands before it -/
def mE1 (q : Nat) (x : Nat × Nat) : List ls_A := if x.1 / 1024 = q then [(16, x.1 % 16, 0), (x.1 / 1024, x.1 % 16, 0)] else [(x.1 / 1024, x.1 % 16, 0)]
def mE (q : Nat) (l : List (Nat × Nat)) : List ls_A := l.flatMap (mE1 q)
theorem mE_in {l : List (Nat × Nat)} {q : Nat} {e : ls_A} : e ∈ mE q l ↔ ∃ x ∈ l, e = (x.1 / 1024, x.1 % 16, 0) ∨ (x.1 / 1024 = q ∧ e = (16, x.1 % 16, 0)) := by
  unfold mE
  rw [List.mem_flatMap]
  constructor
  · rintro ⟨x, hx, he⟩
    unfold mE1 at he
    split at he
    · rename_i hq
      rcases List.mem_cons.mp he with he | he
      · exact ⟨x, hx, Or.inr ⟨hq, he⟩⟩
      · exact ⟨x, hx, Or.inl (List.mem_singleton.mp he)⟩
    · exact ⟨x, hx, Or.inl (List.mem_singleton.mp he)⟩
  · rintro ⟨x, hx, he | ⟨hq, he⟩⟩
    · refine ⟨x, hx, ?_⟩
      unfold mE1
      split
      · rw [he]; simp
      · rw [he]; simp
    · refine ⟨x, hx, ?_⟩
      unfold mE1
      rw [if_pos hq, he]
      simp
theorem mE_s {l : List (Nat × Nat)} {q j : Nat} {x : Nat × Nat} (h : l[j]? = some x) (v : ls_V) : ls_rd (mE q (l.take (j + 1))) v = ls_rd (mE1 q x) (ls_rd (mE q (l.take j)) v) := by
  unfold mE ls_rd
  rw [List.take_add_one, h, Option.toList_some, List.flatMap_append, List.foldl_append, List.flatMap_singleton]
def mz (v : ls_V) : Prop := ∀ s y, v s = some y → y = 0
theorem mz_up {v : ls_V} {t : Nat} (h : mz v) : mz (va_up v t (some 0)) := fun s y hy => by
  by_cases hs : s = t
  · rw [hs, gm_us] at hy; cases hy; rfl
  · rw [gm_un hs] at hy; exact h s y hy
theorem rz_t {v : ls_V} {a b y : Nat} (hz : mz v) (h : v b = some y) : ls_rx v (a, b, 0) = v := ls_rx_n (by
  show ¬ ls_lt (ls_ad (v a) 0) (v b) = true
  rw [h]
  have := hz _ _ h
  cases hv : v a with
  | none => simp [ls_ad, ls_lt]
  | some z =>
    simp [ls_ad, ls_lt]
    omega)
theorem rz_n {v : ls_V} {a b : Nat} (h : v a = none) : ls_rx v (a, b, 0) = v := ls_rx_n (by
  show ¬ ls_lt (ls_ad (v a) 0) (v b) = true
  rw [h]
  simp [ls_ad, ls_lt])
theorem rz_y {v : ls_V} {a b z : Nat} (hz : mz v) (ha : v a = some z) (hb : v b = none) : ls_rx v (a, b, 0) = va_up v b (some 0) := (ls_rx_y (by
  show ls_lt (ls_ad (v a) 0) (v b) = true
  rw [ha, hb]
  rfl)).trans (by
  show va_up v b (ls_ad (v a) 0) = _
  rw [ha, hz _ _ ha]
  rfl)
/-- the marks behind one arc -/
theorem mE1_t {v : ls_V} {q y : Nat} {x : Nat × Nat} (hz : mz v) (h : v (x.1 % 16) = some y) : ls_rd (mE1 q x) v = v := by
  unfold mE1
  split
  · show ls_rx (ls_rx v (16, x.1 % 16, 0)) (x.1 / 1024, x.1 % 16, 0) = v
    rw [rz_t hz h, rz_t hz h]
  · exact rz_t hz h
theorem mE1_n {v : ls_V} {q : Nat} {x : Nat × Nat} (hq : ¬ x.1 / 1024 = q) (h : v (x.1 / 1024) = none) : ls_rd (mE1 q x) v = v := by
  unfold mE1
  rw [if_neg hq]
  exact rz_n h
theorem mE1_y {v : ls_V} {q z : Nat} {x : Nat × Nat} (hz : mz v) (hq : ¬ x.1 / 1024 = q) (h : v (x.1 / 1024) = some z) (ht : v (x.1 % 16) = none) : ls_rd (mE1 q x) v = va_up v (x.1 % 16) (some 0) := by
  unfold mE1
  rw [if_neg hq]
  exact rz_y hz h ht
theorem mE1_q {v : ls_V} {q : Nat} {x : Nat × Nat} (hz : mz v) (hq : x.1 / 1024 = q) (h : v 16 = some 0) (ht : v (x.1 % 16) = none) : ls_rd (mE1 q x) v = va_up v (x.1 % 16) (some 0) := by
  unfold mE1
  rw [if_pos hq]
  show ls_rx (ls_rx v (16, x.1 % 16, 0)) (x.1 / 1024, x.1 % 16, 0) = _
  rw [rz_y hz h ht, rz_t (mz_up hz) gm_us]
theorem mE_cyc {a : am_T} (h : am_ok a) {q : Nat} (hq : q < 16) {v : ls_V} (hv : v = ls_it (mE q (am_ar a)) 16 (we_v0 16 0)) : v q ≠ none ↔ ∃ j, pth (am_ar a) (j + 1) q q := by
  have hN : ∀ e ∈ mE q (am_ar a), e.1 < 17 ∧ e.2.1 < 17 := by
    intro e he
    obtain ⟨x, hx, rfl | ⟨-, rfl⟩⟩ := mE_in.mp he
    · have := h.2.2.1 x hx
      have := h.1.1
      exact ⟨by show x.1 / 1024 < 17; omega, by show x.1 % 16 < 17; omega⟩
    · exact ⟨by show (16 : Nat) < 17; decide, by show x.1 % 16 < 17; omega⟩
  have hf : ls_fix (mE q (am_ar a)) (we_v0 16 0) v := by
    rw [hv]
    exact ls_it_fix hN (by decide)
  have hD : v = ls_D (mE q (am_ar a)) (we_v0 16 0) 16 := ls_one hf ⟨ls_D_le0 _ _ 16, ls_D_cl hN (by decide), fun Y h1 h2 => ls_D_ge h1 h2 16⟩
  constructor
  · intro hn
    have key : ∀ k t, (ls_D (mE q (am_ar a)) (we_v0 16 0) k t).isSome = true → t = 16 ∨ ∃ j, pth (am_ar a) (j + 1) q t := by
      intro k
      induction k with
      | zero =>
        intro t ht
        have ht : (we_v0 16 0 t).isSome = true := ht
        unfold we_v0 at ht
        split at ht
        · exact Or.inl (by assumption)
        · cases ht
      | succ k ih =>
        intro t ht
        have ht : (ls_J (mE q (am_ar a)) (ls_D (mE q (am_ar a)) (we_v0 16 0) k) t).isSome = true := ht
        rcases ls_J_some.mp ht with h1 | ⟨e, he, het, h1⟩
        · exact ih t h1
        · obtain ⟨x, hx, rfl | ⟨hxq, rfl⟩⟩ := mE_in.mp he
          · rcases ih _ h1 with h2 | ⟨j, hj⟩
            · have h2 : x.1 / 1024 = 16 := h2
              have := h.2.2.1 x hx
              have := h.1.1
              omega
            · refine Or.inr ⟨j + 1, ?_⟩
              have het : x.1 % 16 = t := het
              rw [← het]
              exact pth_snoc hx _ _ hj
          · refine Or.inr ⟨0, x, hx, hxq, ?_⟩
            exact het
    rw [hD] at hn
    rcases key 16 q (Option.isSome_iff_ne_none.mpr hn) with h1 | h1
    · omega
    · exact h1
  · rintro ⟨j, x, hx, hxq, hp⟩
    have h16 : v 16 ≠ none := by
      obtain ⟨y, hy, -⟩ := hf.1 16 0 (by unfold we_v0; rw [if_pos rfl])
      rw [hy]
      simp
    have step : ∀ e ∈ mE q (am_ar a), v e.1 ≠ none → v e.2.1 ≠ none := by
      intro e he hn
      obtain ⟨y, hy⟩ := Option.ne_none_iff_exists'.mp hn
      obtain ⟨z, hz, -⟩ := hf.2.1 e he (y + e.2.2) (by rw [hy]; rfl)
      rw [hz]
      simp
    have go : ∀ k s t, v s ≠ none → pth (am_ar a) k s t → v t ≠ none := by
      intro k
      induction k with
      | zero =>
        intro s t hs h1
        have h1 : s = t := h1
        rw [← h1]
        exact hs
      | succ k ih =>
        intro s t hs ⟨y, hy, hys, h1⟩
        refine ih _ _ (step (y.1 / 1024, y.1 % 16, 0) (mE_in.mpr ⟨y, hy, Or.inl rfl⟩) ?_) h1
        show v (y.1 / 1024) ≠ none
        rw [hys]
        exact hs
    exact go j _ _ (step (16, x.1 % 16, 0) (mE_in.mpr ⟨x, hx, Or.inr ⟨hxq, rfl⟩⟩) h16) hp
theorem am_cl_no {l : List (Nat × Nat)} {x : Nat × Nat} (hx : x ∈ l) (h : x.1 / 128 % 8 = 0 ∨ ¬ x.1 / 128 % 8 = x.1 / 16 % 8) : ¬ am_cl l = true := fun e => by
  unfold am_cl at e
  have := List.all_eq_true.mp e x hx
  simp at this
  omega
set_option maxRecDepth 100000 in
set_option maxHeartbeats 4000000 in
theorem ct_Mo_isFit (l : Launch) (D : va_G) (dA : Nat → ClassId) (ad : Nat → Nat) (h : Nat → va_E) (F : mo_F) (L : mo_L) (S : Nat → Int32) {ia : Nat} {A : am_T} (hia : ia < 4) (hA : mo_is F L ia A) (hok : am_ok A) : gx_Ct l D dA yy_Mo_isFit cc_Mo_isFit 5 (some .boolean) 0 0 0 [.ref (ad 43), .int (nI ia)] (gx_w ad (mo_h dA ad h F L S)) (fun v w => ∃ F2, w = (gx_w ad (mo_h dA ad h F2 L S)) ∧ (∀ k, k ≠ 59 → F2 k = F k) ∧ ((am_fitd A ∧ v = some (.int (nI 1))) ∨ (¬ am_fitd A ∧ v = some (.int (nI 0))))) := by
  refine gx_of (by decide) (Nat.le_of_ble_eq_true rfl) (fun K C _ _ => ?_)
  have hla := hA.2.2.2.2.2
  have hn16 := hok.1.1
  have labels : ∀ m j, j + m = (am_ar A).length → am_cl ((am_ar A).take j) = true → gx_G K D 5 0 0 5 [(2, .int (nI (65 * ia + j))), (0, .ref (ad 43)), (1, .int (nI ia))] [] (gx_w ad (mo_h dA ad h F L S)) (gx_Z K D dA 0 0 (fun v w => ∃ F2, w = (gx_w ad (mo_h dA ad h F2 L S)) ∧ (∀ k, k ≠ 59 → F2 k = F k) ∧ ((am_fitd A ∧ v = some (.int (nI 1))) ∨ (¬ am_fitd A ∧ v = some (.int (nI 0)))))) := by
    intro m
    induction m with
    | zero =>
      intro j hj hcl
      refine gx_iload_n C 0 dd_Mo_isFit_5 (kk := ?_)
      refine gx_bipush (v := nI 65) C dd_Mo_isFit_6 (kk := ?_)
      refine gx_iload_n C 2 dd_Mo_isFit_8 (kk := ?_)
      refine gx_imul C dd_Mo_isFit_9 (kk := ?_)
      refine gx_topi _ (pk_mul _ _) ?_
      refine gx_aload_n C 1 dd_Mo_isFit_10 (kk := ?_)
      refine mo_get C fd_Mo_23 dd_Mo_isFit_11 (kk := ?_)
      refine gx_iload_n C 2 dd_Mo_isFit_14 (kk := ?_)
      refine mo_l48 C dd_Mo_isFit_15 (by omega) (kk := ?_)
      refine gx_topi _ hA.2.2.2.1 ?_
      refine gx_iadd C dd_Mo_isFit_16 (kk := ?_)
      refine gx_topi _ (nI_add _ _) ?_
      refine gx_icmp_ge C 52 dd_Mo_isFit_17 (fun h17 => ?_) (fun h17 => absurd (nI_le (a := 65 * ia + (am_ar A).length) (b := 65 * ia + j) (by omega) (by omega)) h17)
      refine gx_iconst (v := nI 0) C dd_Mo_isFit_52 (kk := ?_)
      refine gx_istore_n C _ dd_Mo_isFit_53 (kk := ?_)
      rw [show j = (am_ar A).length by omega, List.take_length] at hcl
      have main : ∀ m q F1, q + m = am_n A → (∀ q2, q2 < q → ¬ ∃ j, pth (am_ar A) (j + 1) q2 q2) → (∀ k, k ≠ 59 → F1 k = F k) → gx_G K D 5 0 0 54 [(2, .int (nI q)), (0, .ref (ad 43)), (1, .int (nI ia))] [] (gx_w ad (mo_h dA ad h F1 L S)) (gx_Z K D dA 0 0 (fun v w => ∃ F2, w = (gx_w ad (mo_h dA ad h F2 L S)) ∧ (∀ k, k ≠ 59 → F2 k = F k) ∧ ((am_fitd A ∧ v = some (.int (nI 1))) ∨ (¬ am_fitd A ∧ v = some (.int (nI 0)))))) := by
        intro m
        induction m with
        | zero =>
          intro q F1 hq0 hno hFk
          refine gx_iload_n C 0 dd_Mo_isFit_54 (kk := ?_)
          refine gx_aload_n C 1 dd_Mo_isFit_55 (kk := ?_)
          refine mo_get C fd_Mo_7 dd_Mo_isFit_56 (kk := ?_)
          refine gx_iload_n C 2 dd_Mo_isFit_59 (kk := ?_)
          refine mo_l44 C dd_Mo_isFit_60 (by omega) (kk := ?_)
          refine gx_topi _ (mo_is_k (fun k hk => hFk k (by omega)) (fun _ _ => rfl) hA).1 ?_
          refine gx_icmp_ge C 202 dd_Mo_isFit_61 (fun h61 => ?_) (fun h61 => absurd (nI_le (a := am_n A) (b := q) (by omega) (by omega)) h61)
          refine gx_iconst (v := nI 1) C dd_Mo_isFit_202 (kk := ?_)
          refine gx_zret C dd_Mo_isFit_203 (by first | rfl | exact fb_nar) ?_
          exact ⟨F1, rfl, hFk, Or.inl ⟨(mf_fit hok).mpr ⟨hcl, fun q2 hq2 => hno q2 (by omega)⟩, rfl⟩⟩
        | succ m ih =>
          intro q F1 hq0 hno hFk
          refine gx_iload_n C 0 dd_Mo_isFit_54 (kk := ?_)
          refine gx_aload_n C 1 dd_Mo_isFit_55 (kk := ?_)
          refine mo_get C fd_Mo_7 dd_Mo_isFit_56 (kk := ?_)
          refine gx_iload_n C 2 dd_Mo_isFit_59 (kk := ?_)
          refine mo_l44 C dd_Mo_isFit_60 (by omega) (kk := ?_)
          refine gx_topi _ (mo_is_k (fun k hk => hFk k (by omega)) (fun _ _ => rfl) hA).1 ?_
          refine gx_icmp_ge C 202 dd_Mo_isFit_61 (fun h61 => absurd h61 (nI_ge (by omega) (by omega))) (fun h61 => ?_)
          refine gx_iconst (v := nI 0) C dd_Mo_isFit_64 (kk := ?_)
          refine gx_istore_n C _ dd_Mo_isFit_65 (kk := ?_)
          have fill : ∀ m2 t F1, t + m2 = 16 → (∀ s, s < t → F1 59 s = nI 0) → (∀ k, k ≠ 59 → F1 k = F k) → gx_G K D 5 0 0 66 [(3, .int (nI t)), (2, .int (nI q)), (0, .ref (ad 43)), (1, .int (nI ia))] [] (gx_w ad (mo_h dA ad h F1 L S)) (gx_Z K D dA 0 0 (fun v w => ∃ F2, w = (gx_w ad (mo_h dA ad h F2 L S)) ∧ (∀ k, k ≠ 59 → F2 k = F k) ∧ ((am_fitd A ∧ v = some (.int (nI 1))) ∨ (¬ am_fitd A ∧ v = some (.int (nI 0)))))) := by
            intro m2
            induction m2 with
            | zero =>
              intro t F1 ht0 hf hFk
              refine gx_iload_n C 0 dd_Mo_isFit_66 (kk := ?_)
              refine gx_bipush (v := nI 16) C dd_Mo_isFit_67 (kk := ?_)
              refine gx_icmp_ge C 85 dd_Mo_isFit_69 (fun h69 => ?_) (fun h69 => absurd (nI_le (a := 16) (b := t) (by omega) (by omega)) h69)
              refine gx_iconst (v := nI 0) C dd_Mo_isFit_85 (kk := ?_)
              refine gx_istore_n C _ dd_Mo_isFit_86 (kk := ?_)
              have rounds : ∀ m2 r0 vr F1, r0 + m2 = 16 → vr = ls_it (mE q (am_ar A)) r0 (we_v0 16 0) → mr_in F1 vr → mz vr → vr 16 = some 0 → (∀ k, k ≠ 59 → F1 k = F k) → gx_G K D 5 0 0 87 [(3, .int (nI r0)), (2, .int (nI q)), (0, .ref (ad 43)), (1, .int (nI ia))] [] (gx_w ad (mo_h dA ad h F1 L S)) (gx_Z K D dA 0 0 (fun v w => ∃ F2, w = (gx_w ad (mo_h dA ad h F2 L S)) ∧ (∀ k, k ≠ 59 → F2 k = F k) ∧ ((am_fitd A ∧ v = some (.int (nI 1))) ∨ (¬ am_fitd A ∧ v = some (.int (nI 0)))))) := by
                intro m2
                induction m2 with
                | zero =>
                  intro r0 vr F1 hr0 hvr hin hz1 hv16 hFk
                  refine gx_iload_n C 0 dd_Mo_isFit_87 (kk := ?_)
                  refine gx_bipush (v := nI 16) C dd_Mo_isFit_88 (kk := ?_)
                  refine gx_icmp_ge C 185 dd_Mo_isFit_90 (fun h90 => ?_) (fun h90 => absurd (nI_le (a := 16) (b := r0) (by omega) (by omega)) h90)
                  rw [show r0 = 16 by omega] at hvr
                  have hcy := mE_cyc hok (by omega) hvr
                  have hp0 := hin q (by omega)
                  rcases hvp : vr q with _ | yq
                  · rw [hvp] at hp0
                    refine gx_aload_n C 2 dd_Mo_isFit_185 (kk := ?_)
                    refine mo_get C fd_Mo_56 dd_Mo_isFit_186 (kk := ?_)
                    refine gx_iload_n C 1 dd_Mo_isFit_189 (kk := ?_)
                    refine mo_l59 C dd_Mo_isFit_190 (by omega) (kk := ?_)
                    refine gx_topi _ hp0 ?_
                    refine gx_if_eq C 196 dd_Mo_isFit_191 (fun h191 => ?_) (fun h191 => absurd rfl h191)
                    refine gx_iinc C 1 (nI (q + 1)) _ dd_Mo_isFit_196 (nI_1 _) (kk := ?_)
                    refine gx_goto C 54 dd_Mo_isFit_199 (kk := ?_)
                    refine gx_loc [0, 2, 3] ?_
                    exact ih (q + 1) F1 (by omega) (fun q2 hq2 => by
                      by_cases he : q2 = q
                      · rw [he]
                        exact fun c => absurd hvp (hcy.mpr c)
                      · exact hno q2 (by omega)) hFk
                  · rw [hvp] at hp0
                    refine gx_aload_n C 2 dd_Mo_isFit_185 (kk := ?_)
                    refine mo_get C fd_Mo_56 dd_Mo_isFit_186 (kk := ?_)
                    refine gx_iload_n C 1 dd_Mo_isFit_189 (kk := ?_)
                    refine mo_l59 C dd_Mo_isFit_190 (by omega) (kk := ?_)
                    refine gx_topi _ hp0 ?_
                    refine gx_if_eq C 196 dd_Mo_isFit_191 (fun h191 => absurd (show nI 1 = 0 from h191) (by decide)) (fun h191 => ?_)
                    refine gx_iconst (v := nI 0) C dd_Mo_isFit_194 (kk := ?_)
                    refine gx_zret C dd_Mo_isFit_195 (by first | rfl | exact fb_nar) ?_
                    refine ⟨F1, rfl, hFk, Or.inr ⟨fun e => ?_, rfl⟩⟩
                    exact ((mf_fit hok).mp e).2 q (by omega) (hcy.mp (by rw [hvp]; simp))
                | succ m2 ihr =>
                  intro r0 vr F1 hr0 hvr hin hz1 hv16 hFk
                  refine gx_iload_n C 0 dd_Mo_isFit_87 (kk := ?_)
                  refine gx_bipush (v := nI 16) C dd_Mo_isFit_88 (kk := ?_)
                  refine gx_icmp_ge C 185 dd_Mo_isFit_90 (fun h90 => absurd h90 (nI_ge (by omega) (by omega))) (fun h90 => ?_)
                  refine gx_bipush (v := nI 65) C dd_Mo_isFit_93 (kk := ?_)
                  refine gx_iload_n C 3 dd_Mo_isFit_95 (kk := ?_)
                  refine gx_imul C dd_Mo_isFit_96 (kk := ?_)
                  refine gx_topi _ (pk_mul _ _) ?_
                  refine gx_istore C _ dd_Mo_isFit_97 (kk := ?_)
                  have inner : ∀ m j v1 F1, j + m = (am_ar A).length → v1 = ls_rd (mE q ((am_ar A).take j)) vr → mr_in F1 v1 → mz v1 → v1 16 = some 0 → (∀ k, k ≠ 59 → F1 k = F k) → gx_G K D 5 0 0 99 [(4, .int (nI (65 * ia + j))), (3, .int (nI r0)), (2, .int (nI q)), (0, .ref (ad 43)), (1, .int (nI ia))] [] (gx_w ad (mo_h dA ad h F1 L S)) (gx_Z K D dA 0 0 (fun v w => ∃ F2, w = (gx_w ad (mo_h dA ad h F2 L S)) ∧ (∀ k, k ≠ 59 → F2 k = F k) ∧ ((am_fitd A ∧ v = some (.int (nI 1))) ∨ (¬ am_fitd A ∧ v = some (.int (nI 0)))))) := by
                    intro m
                    induction m with
                    | zero =>
                      intro j v1 F1 hj hv1 hin hz1 hv16 hFk
                      refine gx_iload C 0 dd_Mo_isFit_99 (kk := ?_)
                      refine gx_bipush (v := nI 65) C dd_Mo_isFit_101 (kk := ?_)
                      refine gx_iload_n C 4 dd_Mo_isFit_103 (kk := ?_)
                      refine gx_imul C dd_Mo_isFit_104 (kk := ?_)
                      refine gx_topi _ (pk_mul _ _) ?_
                      refine gx_aload_n C 3 dd_Mo_isFit_105 (kk := ?_)
                      refine mo_get C fd_Mo_23 dd_Mo_isFit_106 (kk := ?_)
                      refine gx_iload_n C 4 dd_Mo_isFit_109 (kk := ?_)
                      refine mo_l48 C dd_Mo_isFit_110 (by omega) (kk := ?_)
                      refine gx_topi _ (mo_is_k (fun k hk => hFk k (by omega)) (fun _ _ => rfl) hA).2.2.2.1 ?_
                      refine gx_iadd C dd_Mo_isFit_111 (kk := ?_)
                      refine gx_topi _ (nI_add _ _) ?_
                      refine gx_icmp_ge C 179 dd_Mo_isFit_112 (fun h112 => ?_) (fun h112 => absurd (nI_le (a := 65 * ia + (am_ar A).length) (b := 65 * ia + j) (by omega) (by omega)) h112)
                      refine gx_iinc C 1 (nI (r0 + 1)) _ dd_Mo_isFit_179 (nI_1 _) (kk := ?_)
                      refine gx_goto C 87 dd_Mo_isFit_182 (kk := ?_)
                      refine gx_loc [0, 2, 3, 4] ?_
                      rw [show j = (am_ar A).length by omega, List.take_length] at hv1
                      exact ihr (r0 + 1) v1 F1 (by omega) (by rw [hv1, hvr]; rfl) hin hz1 hv16 hFk
                    | succ m ihj =>
                      intro j v1 F1 hj hv1 hin hz1 hv16 hFk
                      obtain ⟨x, hx⟩ : ∃ x, (am_ar A)[j]? = some x := ⟨_, List.getElem?_eq_getElem (by omega)⟩
                      have hxa := (mo_is_k (fun k hk => hFk k (by omega)) (fun _ _ => rfl) hA).2.2.2.2.1 j x hx
                      have hxb := hok.1.2.2.1 x (List.mem_of_getElem? hx)
                      refine gx_iload C 0 dd_Mo_isFit_99 (kk := ?_)
                      refine gx_bipush (v := nI 65) C dd_Mo_isFit_101 (kk := ?_)
                      refine gx_iload_n C 4 dd_Mo_isFit_103 (kk := ?_)
                      refine gx_imul C dd_Mo_isFit_104 (kk := ?_)
                      refine gx_topi _ (pk_mul _ _) ?_
                      refine gx_aload_n C 3 dd_Mo_isFit_105 (kk := ?_)
                      refine mo_get C fd_Mo_23 dd_Mo_isFit_106 (kk := ?_)
                      refine gx_iload_n C 4 dd_Mo_isFit_109 (kk := ?_)
                      refine mo_l48 C dd_Mo_isFit_110 (by omega) (kk := ?_)
                      refine gx_topi _ (mo_is_k (fun k hk => hFk k (by omega)) (fun _ _ => rfl) hA).2.2.2.1 ?_
                      refine gx_iadd C dd_Mo_isFit_111 (kk := ?_)
                      refine gx_topi _ (nI_add _ _) ?_
                      refine gx_icmp_ge C 179 dd_Mo_isFit_112 (fun h112 => absurd h112 (nI_ge (by omega) (by omega))) (fun h112 => ?_)
                      have ht0 := hin (x.1 % 16) (by omega)
                      rcases hvt : v1 (x.1 % 16) with _ | y0
                      · rw [hvt] at ht0
                        refine gx_aload_n C 3 dd_Mo_isFit_115 (kk := ?_)
                        refine mo_get C fd_Mo_56 dd_Mo_isFit_116 (kk := ?_)
                        refine gx_aload_n C 3 dd_Mo_isFit_119 (kk := ?_)
                        refine mo_get C fd_Mo_29 dd_Mo_isFit_120 (kk := ?_)
                        refine gx_iload C 0 dd_Mo_isFit_123 (kk := ?_)
                        refine mo_l50 C dd_Mo_isFit_125 (by omega) (kk := ?_)
                        refine gx_topi _ hxa.2.1 ?_
                        refine gx_aload_n C 3 dd_Mo_isFit_126 (kk := ?_)
                        refine mo_get C fd_Mo_56 dd_Mo_isFit_127 (kk := ?_)
                        refine gx_aload_n C 3 dd_Mo_isFit_130 (kk := ?_)
                        refine mo_get C fd_Mo_29 dd_Mo_isFit_131 (kk := ?_)
                        refine gx_iload C 0 dd_Mo_isFit_134 (kk := ?_)
                        refine mo_l50 C dd_Mo_isFit_136 (by omega) (kk := ?_)
                        refine gx_topi _ hxa.2.1 ?_
                        refine mo_l59 C dd_Mo_isFit_137 (by omega) (kk := ?_)
                        refine gx_topi _ ht0 ?_
                        refine gx_if_ne C 167 dd_Mo_isFit_138 (fun h138 => absurd rfl h138) (fun h138 => ?_)
                        by_cases hxq : x.1 / 1024 = q
                        · refine gx_aload_n C 3 dd_Mo_isFit_141 (kk := ?_)
                          refine mo_get C fd_Mo_26 dd_Mo_isFit_142 (kk := ?_)
                          refine gx_iload C 0 dd_Mo_isFit_145 (kk := ?_)
                          refine mo_l49 C dd_Mo_isFit_147 (by omega) (kk := ?_)
                          refine gx_topi _ hxa.1 ?_
                          refine gx_iload_n C 2 dd_Mo_isFit_148 (kk := ?_)
                          refine gx_icmp_eq C 167 dd_Mo_isFit_149 (fun h149 => ?_) (fun h149 => absurd (congrArg nI hxq) h149)
                          refine gx_iconst (v := nI 1) C dd_Mo_isFit_167 (kk := ?_)
                          refine gx_goto C 172 dd_Mo_isFit_168 (kk := ?_)
                          refine mo_s59 C dd_Mo_isFit_172 (by omega) (kk := fun F172 hF172 => ?_)
                          refine gx_iinc C 0 (nI (65 * ia + (j + 1))) _ dd_Mo_isFit_173 (nI_1 _) (kk := ?_)
                          refine gx_goto C 99 dd_Mo_isFit_176 (kk := ?_)
                          exact ihj (j + 1) _ F172 (by omega) (by rw [mE_s hx, ← hv1]; exact (mE1_q hz1 hxq hv16 hvt).symm) (mr_up hF172 rfl hin) (mz_up hz1) (by rw [gm_un (by omega)]; exact hv16) (fun k hk => by rw [hF172, gm_un hk]; exact hFk k hk)
                        · refine gx_aload_n C 3 dd_Mo_isFit_141 (kk := ?_)
                          refine mo_get C fd_Mo_26 dd_Mo_isFit_142 (kk := ?_)
                          refine gx_iload C 0 dd_Mo_isFit_145 (kk := ?_)
                          refine mo_l49 C dd_Mo_isFit_147 (by omega) (kk := ?_)
                          refine gx_topi _ hxa.1 ?_
                          refine gx_iload_n C 2 dd_Mo_isFit_148 (kk := ?_)
                          refine gx_icmp_eq C 167 dd_Mo_isFit_149 (fun h149 => absurd ((nI_eq (by omega) (by omega)).mp h149) hxq) (fun h149 => ?_)
                          have hf0 := hin (x.1 / 1024) (by omega)
                          rcases hvf : v1 (x.1 / 1024) with _ | z0
                          · rw [hvf] at hf0
                            refine gx_aload_n C 3 dd_Mo_isFit_152 (kk := ?_)
                            refine mo_get C fd_Mo_56 dd_Mo_isFit_153 (kk := ?_)
                            refine gx_aload_n C 3 dd_Mo_isFit_156 (kk := ?_)
                            refine mo_get C fd_Mo_26 dd_Mo_isFit_157 (kk := ?_)
                            refine gx_iload C 0 dd_Mo_isFit_160 (kk := ?_)
                            refine mo_l49 C dd_Mo_isFit_162 (by omega) (kk := ?_)
                            refine gx_topi _ hxa.1 ?_
                            refine mo_l59 C dd_Mo_isFit_163 (by omega) (kk := ?_)
                            refine gx_topi _ hf0 ?_
                            refine gx_if_eq C 171 dd_Mo_isFit_164 (fun h164 => ?_) (fun h164 => absurd rfl h164)
                            refine gx_iconst (v := nI 0) C dd_Mo_isFit_171 (kk := ?_)
                            refine mo_s59 C dd_Mo_isFit_172 (by omega) (kk := fun F172 hF172 => ?_)
                            refine gx_iinc C 0 (nI (65 * ia + (j + 1))) _ dd_Mo_isFit_173 (nI_1 _) (kk := ?_)
                            refine gx_goto C 99 dd_Mo_isFit_176 (kk := ?_)
                            exact ihj (j + 1) v1 F172 (by omega) (by rw [mE_s hx, ← hv1]; exact (mE1_n hxq hvf).symm) (by rw [← va_up_id v1 (x.1 % 16) hvt]; exact mr_up hF172 rfl hin) hz1 hv16 (fun k hk => by rw [hF172, gm_un hk]; exact hFk k hk)
                          · rw [hvf] at hf0
                            refine gx_aload_n C 3 dd_Mo_isFit_152 (kk := ?_)
                            refine mo_get C fd_Mo_56 dd_Mo_isFit_153 (kk := ?_)
                            refine gx_aload_n C 3 dd_Mo_isFit_156 (kk := ?_)
                            refine mo_get C fd_Mo_26 dd_Mo_isFit_157 (kk := ?_)
                            refine gx_iload C 0 dd_Mo_isFit_160 (kk := ?_)
                            refine mo_l49 C dd_Mo_isFit_162 (by omega) (kk := ?_)
                            refine gx_topi _ hxa.1 ?_
                            refine mo_l59 C dd_Mo_isFit_163 (by omega) (kk := ?_)
                            refine gx_topi _ hf0 ?_
                            refine gx_if_eq C 171 dd_Mo_isFit_164 (fun h164 => absurd (show nI 1 = 0 from h164) (by decide)) (fun h164 => ?_)
                            refine gx_iconst (v := nI 1) C dd_Mo_isFit_167 (kk := ?_)
                            refine gx_goto C 172 dd_Mo_isFit_168 (kk := ?_)
                            refine mo_s59 C dd_Mo_isFit_172 (by omega) (kk := fun F172 hF172 => ?_)
                            refine gx_iinc C 0 (nI (65 * ia + (j + 1))) _ dd_Mo_isFit_173 (nI_1 _) (kk := ?_)
                            refine gx_goto C 99 dd_Mo_isFit_176 (kk := ?_)
                            exact ihj (j + 1) _ F172 (by omega) (by rw [mE_s hx, ← hv1]; exact (mE1_y hz1 hxq hvf hvt).symm) (mr_up hF172 rfl hin) (mz_up hz1) (by rw [gm_un (by omega)]; exact hv16) (fun k hk => by rw [hF172, gm_un hk]; exact hFk k hk)
                      · rw [hvt] at ht0
                        refine gx_aload_n C 3 dd_Mo_isFit_115 (kk := ?_)
                        refine mo_get C fd_Mo_56 dd_Mo_isFit_116 (kk := ?_)
                        refine gx_aload_n C 3 dd_Mo_isFit_119 (kk := ?_)
                        refine mo_get C fd_Mo_29 dd_Mo_isFit_120 (kk := ?_)
                        refine gx_iload C 0 dd_Mo_isFit_123 (kk := ?_)
                        refine mo_l50 C dd_Mo_isFit_125 (by omega) (kk := ?_)
                        refine gx_topi _ hxa.2.1 ?_
                        refine gx_aload_n C 3 dd_Mo_isFit_126 (kk := ?_)
                        refine mo_get C fd_Mo_56 dd_Mo_isFit_127 (kk := ?_)
                        refine gx_aload_n C 3 dd_Mo_isFit_130 (kk := ?_)
                        refine mo_get C fd_Mo_29 dd_Mo_isFit_131 (kk := ?_)
                        refine gx_iload C 0 dd_Mo_isFit_134 (kk := ?_)
                        refine mo_l50 C dd_Mo_isFit_136 (by omega) (kk := ?_)
                        refine gx_topi _ hxa.2.1 ?_
                        refine mo_l59 C dd_Mo_isFit_137 (by omega) (kk := ?_)
                        refine gx_topi _ ht0 ?_
                        refine gx_if_ne C 167 dd_Mo_isFit_138 (fun h138 => ?_) (fun h138 => absurd (show nI 1 = 0 from h138) (by decide))
                        refine gx_iconst (v := nI 1) C dd_Mo_isFit_167 (kk := ?_)
                        refine gx_goto C 172 dd_Mo_isFit_168 (kk := ?_)
                        refine mo_s59 C dd_Mo_isFit_172 (by omega) (kk := fun F172 hF172 => ?_)
                        refine gx_iinc C 0 (nI (65 * ia + (j + 1))) _ dd_Mo_isFit_173 (nI_1 _) (kk := ?_)
                        refine gx_goto C 99 dd_Mo_isFit_176 (kk := ?_)
                        exact ihj (j + 1) v1 F172 (by omega) (by rw [mE_s hx, ← hv1]; exact (mE1_t hz1 hvt).symm) (by rw [← va_up_id v1 (x.1 % 16) hvt]; exact mr_up hF172 rfl hin) hz1 hv16 (fun k hk => by rw [hF172, gm_un hk]; exact hFk k hk)
                  exact inner (am_ar A).length 0 vr F1 (by omega) rfl hin hz1 hv16 hFk
              exact rounds 16 0 (we_v0 16 0) F1 rfl rfl (fun s hs => by rw [hf s (by omega)]; unfold we_v0; rw [if_neg (by omega)]; rfl) (fun s y hy => by
                unfold we_v0 at hy
                split at hy
                · cases hy; rfl
                · cases hy) (by unfold we_v0; rw [if_pos rfl]) hFk
            | succ m2 iht =>
              intro t F1 ht0 hf hFk
              refine gx_iload_n C 0 dd_Mo_isFit_66 (kk := ?_)
              refine gx_bipush (v := nI 16) C dd_Mo_isFit_67 (kk := ?_)
              refine gx_icmp_ge C 85 dd_Mo_isFit_69 (fun h69 => absurd h69 (nI_ge (by omega) (by omega))) (fun h69 => ?_)
              refine gx_aload_n C 2 dd_Mo_isFit_72 (kk := ?_)
              refine mo_get C fd_Mo_56 dd_Mo_isFit_73 (kk := ?_)
              refine gx_iload_n C 0 dd_Mo_isFit_76 (kk := ?_)
              refine gx_iconst (v := nI 0) C dd_Mo_isFit_77 (kk := ?_)
              refine mo_s59 C dd_Mo_isFit_78 (by omega) (kk := fun F78 hF78 => ?_)
              refine gx_iinc C 0 (nI (t + 1)) _ dd_Mo_isFit_79 (nI_1 _) (kk := ?_)
              refine gx_goto C 66 dd_Mo_isFit_82 (kk := ?_)
              refine iht (t + 1) F78 (by omega) (fun s hs => ?_) (fun k hk => by rw [hF78, gm_un hk]; exact hFk k hk)
              rw [hF78, gm_us]
              by_cases hst : s = t
              · rw [hst, pk_us]
                rfl
              · rw [pk_un hst]
                exact hf s (by omega)
          exact fill 16 0 F1 rfl (fun s hs => absurd hs (Nat.not_lt_zero _)) hFk
      exact main (am_n A) 0 F (by omega) (fun q2 hq2 => absurd hq2 (Nat.not_lt_zero _)) (fun _ _ => rfl)
    | succ m ih =>
      intro j hj hcl
      obtain ⟨x, hx⟩ : ∃ x, (am_ar A)[j]? = some x := ⟨_, List.getElem?_eq_getElem (by omega)⟩
      have hxa := hA.2.2.2.2.1 j x hx
      have hxb := hok.1.2.2.1 x (List.mem_of_getElem? hx)
      refine gx_iload_n C 0 dd_Mo_isFit_5 (kk := ?_)
      refine gx_bipush (v := nI 65) C dd_Mo_isFit_6 (kk := ?_)
      refine gx_iload_n C 2 dd_Mo_isFit_8 (kk := ?_)
      refine gx_imul C dd_Mo_isFit_9 (kk := ?_)
      refine gx_topi _ (pk_mul _ _) ?_
      refine gx_aload_n C 1 dd_Mo_isFit_10 (kk := ?_)
      refine mo_get C fd_Mo_23 dd_Mo_isFit_11 (kk := ?_)
      refine gx_iload_n C 2 dd_Mo_isFit_14 (kk := ?_)
      refine mo_l48 C dd_Mo_isFit_15 (by omega) (kk := ?_)
      refine gx_topi _ hA.2.2.2.1 ?_
      refine gx_iadd C dd_Mo_isFit_16 (kk := ?_)
      refine gx_topi _ (nI_add _ _) ?_
      refine gx_icmp_ge C 52 dd_Mo_isFit_17 (fun h17 => absurd h17 (nI_ge (by omega) (by omega))) (fun h17 => ?_)
      rcases (show x.1 / 128 % 8 = 0 ∨ (¬ x.1 / 128 % 8 = 0 ∧ ¬ x.1 / 128 % 8 = x.1 / 16 % 8) ∨ (¬ x.1 / 128 % 8 = 0 ∧ x.1 / 128 % 8 = x.1 / 16 % 8) by omega) with z1 | ⟨z1, z2⟩ | ⟨z1, z2⟩
      · refine gx_aload_n C 1 dd_Mo_isFit_20 (kk := ?_)
        refine mo_get C fd_Mo_32 dd_Mo_isFit_21 (kk := ?_)
        refine gx_iload_n C 0 dd_Mo_isFit_24 (kk := ?_)
        refine mo_l51 C dd_Mo_isFit_25 (by omega) (kk := ?_)
        refine gx_topi _ hxa.2.2.1 ?_
        refine gx_if_eq C 44 dd_Mo_isFit_26 (fun h26 => ?_) (fun h26 => absurd (show nI (x.1 / 128 % 8) = 0 by rw [z1]; rfl) h26)
        refine gx_iconst (v := nI 0) C dd_Mo_isFit_44 (kk := ?_)
        refine gx_zret C dd_Mo_isFit_45 (by first | rfl | exact fb_nar) ?_
        exact ⟨F, rfl, fun _ _ => rfl, Or.inr ⟨fun e => am_cl_no (List.mem_of_getElem? hx) (by omega) e.1, rfl⟩⟩
      · refine gx_aload_n C 1 dd_Mo_isFit_20 (kk := ?_)
        refine mo_get C fd_Mo_32 dd_Mo_isFit_21 (kk := ?_)
        refine gx_iload_n C 0 dd_Mo_isFit_24 (kk := ?_)
        refine mo_l51 C dd_Mo_isFit_25 (by omega) (kk := ?_)
        refine gx_topi _ hxa.2.2.1 ?_
        refine gx_if_eq C 44 dd_Mo_isFit_26 (fun h26 => absurd h26 (nI_ne0 (by omega) (by omega))) (fun h26 => ?_)
        refine gx_aload_n C 1 dd_Mo_isFit_29 (kk := ?_)
        refine mo_get C fd_Mo_32 dd_Mo_isFit_30 (kk := ?_)
        refine gx_iload_n C 0 dd_Mo_isFit_33 (kk := ?_)
        refine mo_l51 C dd_Mo_isFit_34 (by omega) (kk := ?_)
        refine gx_topi _ hxa.2.2.1 ?_
        refine gx_aload_n C 1 dd_Mo_isFit_35 (kk := ?_)
        refine mo_get C fd_Mo_35 dd_Mo_isFit_36 (kk := ?_)
        refine gx_iload_n C 0 dd_Mo_isFit_39 (kk := ?_)
        refine mo_l52 C dd_Mo_isFit_40 (by omega) (kk := ?_)
        refine gx_topi _ hxa.2.2.2.1 ?_
        refine gx_icmp_eq C 46 dd_Mo_isFit_41 (fun h41 => absurd ((nI_eq (by omega) (by omega)).mp h41) z2) (fun h41 => ?_)
        refine gx_iconst (v := nI 0) C dd_Mo_isFit_44 (kk := ?_)
        refine gx_zret C dd_Mo_isFit_45 (by first | rfl | exact fb_nar) ?_
        exact ⟨F, rfl, fun _ _ => rfl, Or.inr ⟨fun e => am_cl_no (List.mem_of_getElem? hx) (by omega) e.1, rfl⟩⟩
      · refine gx_aload_n C 1 dd_Mo_isFit_20 (kk := ?_)
        refine mo_get C fd_Mo_32 dd_Mo_isFit_21 (kk := ?_)
        refine gx_iload_n C 0 dd_Mo_isFit_24 (kk := ?_)
        refine mo_l51 C dd_Mo_isFit_25 (by omega) (kk := ?_)
        refine gx_topi _ hxa.2.2.1 ?_
        refine gx_if_eq C 44 dd_Mo_isFit_26 (fun h26 => absurd h26 (nI_ne0 (by omega) (by omega))) (fun h26 => ?_)
        refine gx_aload_n C 1 dd_Mo_isFit_29 (kk := ?_)
        refine mo_get C fd_Mo_32 dd_Mo_isFit_30 (kk := ?_)
        refine gx_iload_n C 0 dd_Mo_isFit_33 (kk := ?_)
        refine mo_l51 C dd_Mo_isFit_34 (by omega) (kk := ?_)
        refine gx_topi _ hxa.2.2.1 ?_
        refine gx_aload_n C 1 dd_Mo_isFit_35 (kk := ?_)
        refine mo_get C fd_Mo_35 dd_Mo_isFit_36 (kk := ?_)
        refine gx_iload_n C 0 dd_Mo_isFit_39 (kk := ?_)
        refine mo_l52 C dd_Mo_isFit_40 (by omega) (kk := ?_)
        refine gx_topi _ hxa.2.2.2.1 ?_
        refine gx_icmp_eq C 46 dd_Mo_isFit_41 (fun h41 => ?_) (fun h41 => absurd (congrArg nI z2) h41)
        refine gx_iinc C 0 (nI (65 * ia + (j + 1))) _ dd_Mo_isFit_46 (nI_1 _) (kk := ?_)
        refine gx_goto C 5 dd_Mo_isFit_49 (kk := ?_)
        exact ih (j + 1) (by omega) (by
          rw [am_cl_s hx, hcl]
          rw [decide_eq_true z1, decide_eq_true z2]
          rfl)
  refine gx_bipush (v := nI 65) C dd_Mo_isFit_0 (kk := ?_)
  refine gx_iload_n C 1 dd_Mo_isFit_2 (kk := ?_)
  refine gx_imul C dd_Mo_isFit_3 (kk := ?_)
  refine gx_topi _ (pk_mul _ _) ?_
  refine gx_istore_n C _ dd_Mo_isFit_4 (kk := ?_)
  exact labels (am_ar A).length 0 (by omega) rfl
