theorem dd_We_leastWeight_0 : decode cc_We_leastWeight 0 = .ok (.aload_n 0, 1) := by decide +kernel
theorem dd_We_leastWeight_1 : decode cc_We_leastWeight 1 = .ok (.getfield 12, 3) := by decide +kernel
theorem dd_We_leastWeight_4 : decode cc_We_leastWeight 4 = .ok (.iload_n 2, 1) := by decide +kernel
theorem dd_We_leastWeight_5 : decode cc_We_leastWeight 5 = .ok (.invokevirtual 25, 3) := by decide +kernel
theorem dd_We_leastWeight_8 : decode cc_We_leastWeight 8 = .ok (.ifCond .eq 22, 3) := by decide +kernel
theorem dd_We_leastWeight_11 : decode cc_We_leastWeight 11 = .ok (.aload_n 0, 1) := by decide +kernel
theorem dd_We_leastWeight_12 : decode cc_We_leastWeight 12 = .ok (.getfield 18, 3) := by decide +kernel
theorem dd_We_leastWeight_15 : decode cc_We_leastWeight 15 = .ok (.iload_n 3, 1) := by decide +kernel
theorem dd_We_leastWeight_16 : decode cc_We_leastWeight 16 = .ok (.invokevirtual 25, 3) := by decide +kernel
theorem dd_We_leastWeight_19 : decode cc_We_leastWeight 19 = .ok (.ifCond .eq 11, 3) := by decide +kernel
theorem dd_We_leastWeight_22 : decode cc_We_leastWeight 22 = .ok (.aload_n 1, 1) := by decide +kernel
theorem dd_We_leastWeight_23 : decode cc_We_leastWeight 23 = .ok (.getfield 29, 3) := by decide +kernel
theorem dd_We_leastWeight_26 : decode cc_We_leastWeight 26 = .ok (.iconst (-1), 1) := by decide +kernel
theorem dd_We_leastWeight_27 : decode cc_We_leastWeight 27 = .ok (.if_icmp .ne 7, 3) := by decide +kernel
theorem dd_We_leastWeight_30 : decode cc_We_leastWeight 30 = .ok (.ldc2_w 35, 3) := by decide +kernel
theorem dd_We_leastWeight_33 : decode cc_We_leastWeight 33 = .ok (.lreturn, 1) := by decide +kernel
theorem dd_We_leastWeight_34 : decode cc_We_leastWeight 34 = .ok (.aload_n 0, 1) := by decide +kernel
theorem dd_We_leastWeight_35 : decode cc_We_leastWeight 35 = .ok (.getfield 21, 3) := by decide +kernel
theorem dd_We_leastWeight_38 : decode cc_We_leastWeight 38 = .ok (.ldc2_w 37, 3) := by decide +kernel
theorem dd_We_leastWeight_41 : decode cc_We_leastWeight 41 = .ok (.invokestatic 39, 3) := by decide +kernel
theorem dd_We_leastWeight_44 : decode cc_We_leastWeight 44 = .ok (.aload_n 0, 1) := by decide +kernel
theorem dd_We_leastWeight_45 : decode cc_We_leastWeight 45 = .ok (.getfield 21, 3) := by decide +kernel
theorem dd_We_leastWeight_48 : decode cc_We_leastWeight 48 = .ok (.aload_n 1, 1) := by decide +kernel
theorem dd_We_leastWeight_49 : decode cc_We_leastWeight 49 = .ok (.getfield 29, 3) := by decide +kernel
theorem dd_We_leastWeight_52 : decode cc_We_leastWeight 52 = .ok (.aload_n 1, 1) := by decide +kernel
theorem dd_We_leastWeight_53 : decode cc_We_leastWeight 53 = .ok (.getfield 45, 3) := by decide +kernel
theorem dd_We_leastWeight_56 : decode cc_We_leastWeight 56 = .ok (.lastore, 1) := by decide +kernel
theorem dd_We_leastWeight_57 : decode cc_We_leastWeight 57 = .ok (.iconst 0, 1) := by decide +kernel
theorem dd_We_leastWeight_58 : decode cc_We_leastWeight 58 = .ok (.istore 4, 2) := by decide +kernel
theorem dd_We_leastWeight_60 : decode cc_We_leastWeight 60 = .ok (.iload 4, 2) := by decide +kernel
theorem dd_We_leastWeight_62 : decode cc_We_leastWeight 62 = .ok (.aload_n 0, 1) := by decide +kernel
theorem dd_We_leastWeight_63 : decode cc_We_leastWeight 63 = .ok (.getfield 12, 3) := by decide +kernel
theorem dd_We_leastWeight_66 : decode cc_We_leastWeight 66 = .ok (.getfield 49, 3) := by decide +kernel
theorem dd_We_leastWeight_69 : decode cc_We_leastWeight 69 = .ok (.if_icmp .gt 54, 3) := by decide +kernel
theorem dd_We_leastWeight_72 : decode cc_We_leastWeight 72 = .ok (.iconst 0, 1) := by decide +kernel
theorem dd_We_leastWeight_73 : decode cc_We_leastWeight 73 = .ok (.istore 5, 2) := by decide +kernel
theorem dd_We_leastWeight_75 : decode cc_We_leastWeight 75 = .ok (.iload 5, 2) := by decide +kernel
theorem dd_We_leastWeight_77 : decode cc_We_leastWeight 77 = .ok (.aload_n 0, 1) := by decide +kernel
theorem dd_We_leastWeight_78 : decode cc_We_leastWeight 78 = .ok (.getfield 18, 3) := by decide +kernel
theorem dd_We_leastWeight_81 : decode cc_We_leastWeight 81 = .ok (.getfield 49, 3) := by decide +kernel
theorem dd_We_leastWeight_84 : decode cc_We_leastWeight 84 = .ok (.if_icmp .gt 33, 3) := by decide +kernel
theorem dd_We_leastWeight_87 : decode cc_We_leastWeight 87 = .ok (.aload_n 1, 1) := by decide +kernel
theorem dd_We_leastWeight_88 : decode cc_We_leastWeight 88 = .ok (.aload_n 0, 1) := by decide +kernel
theorem dd_We_leastWeight_89 : decode cc_We_leastWeight 89 = .ok (.getfield 21, 3) := by decide +kernel
theorem dd_We_leastWeight_92 : decode cc_We_leastWeight 92 = .ok (.iload 4, 2) := by decide +kernel
theorem dd_We_leastWeight_94 : decode cc_We_leastWeight 94 = .ok (.iload 5, 2) := by decide +kernel
theorem dd_We_leastWeight_96 : decode cc_We_leastWeight 96 = .ok (.invokestatic 52, 3) := by decide +kernel
theorem dd_We_leastWeight_99 : decode cc_We_leastWeight 99 = .ok (.invokevirtual 56, 3) := by decide +kernel
theorem dd_We_leastWeight_102 : decode cc_We_leastWeight 102 = .ok (.aload_n 0, 1) := by decide +kernel
theorem dd_We_leastWeight_103 : decode cc_We_leastWeight 103 = .ok (.aload_n 1, 1) := by decide +kernel
theorem dd_We_leastWeight_104 : decode cc_We_leastWeight 104 = .ok (.iload 4, 2) := by decide +kernel
theorem dd_We_leastWeight_106 : decode cc_We_leastWeight 106 = .ok (.iload 5, 2) := by decide +kernel
theorem dd_We_leastWeight_108 : decode cc_We_leastWeight 108 = .ok (.invokevirtual 60, 3) := by decide +kernel
theorem dd_We_leastWeight_111 : decode cc_We_leastWeight 111 = .ok (.iinc 5 1, 3) := by decide +kernel
theorem dd_We_leastWeight_114 : decode cc_We_leastWeight 114 = .ok (.goto (-39), 3) := by decide +kernel
theorem dd_We_leastWeight_117 : decode cc_We_leastWeight 117 = .ok (.iinc 4 1, 3) := by decide +kernel
theorem dd_We_leastWeight_120 : decode cc_We_leastWeight 120 = .ok (.goto (-60), 3) := by decide +kernel
theorem dd_We_leastWeight_123 : decode cc_We_leastWeight 123 = .ok (.aload_n 0, 1) := by decide +kernel
theorem dd_We_leastWeight_124 : decode cc_We_leastWeight 124 = .ok (.aload_n 1, 1) := by decide +kernel
theorem dd_We_leastWeight_125 : decode cc_We_leastWeight 125 = .ok (.aload_n 0, 1) := by decide +kernel
theorem dd_We_leastWeight_126 : decode cc_We_leastWeight 126 = .ok (.getfield 12, 3) := by decide +kernel
theorem dd_We_leastWeight_129 : decode cc_We_leastWeight 129 = .ok (.getfield 49, 3) := by decide +kernel
theorem dd_We_leastWeight_132 : decode cc_We_leastWeight 132 = .ok (.aload_n 0, 1) := by decide +kernel
theorem dd_We_leastWeight_133 : decode cc_We_leastWeight 133 = .ok (.getfield 18, 3) := by decide +kernel
theorem dd_We_leastWeight_136 : decode cc_We_leastWeight 136 = .ok (.getfield 49, 3) := by decide +kernel
theorem dd_We_leastWeight_139 : decode cc_We_leastWeight 139 = .ok (.invokestatic 52, 3) := by decide +kernel
theorem dd_We_leastWeight_142 : decode cc_We_leastWeight 142 = .ok (.invokevirtual 64, 3) := by decide +kernel
theorem dd_We_leastWeight_145 : decode cc_We_leastWeight 145 = .ok (.lstore 4, 2) := by decide +kernel
theorem dd_We_leastWeight_147 : decode cc_We_leastWeight 147 = .ok (.lload 4, 2) := by decide +kernel
theorem dd_We_leastWeight_149 : decode cc_We_leastWeight 149 = .ok (.ldc2_w 37, 3) := by decide +kernel
theorem dd_We_leastWeight_152 : decode cc_We_leastWeight 152 = .ok (.lcmp, 1) := by decide +kernel
theorem dd_We_leastWeight_153 : decode cc_We_leastWeight 153 = .ok (.ifCond .ge 8, 3) := by decide +kernel
theorem dd_We_leastWeight_156 : decode cc_We_leastWeight 156 = .ok (.lload 4, 2) := by decide +kernel
theorem dd_We_leastWeight_158 : decode cc_We_leastWeight 158 = .ok (.goto 6, 3) := by decide +kernel
theorem dd_We_leastWeight_161 : decode cc_We_leastWeight 161 = .ok (.ldc2_w 35, 3) := by decide +kernel
theorem dd_We_leastWeight_164 : decode cc_We_leastWeight 164 = .ok (.lreturn, 1) := by decide +kernel
/-! WEIGHING: by labels read, labels written and state -/
def we_xf (A B : List Nat) (i j : Nat) (x : Nat × Nat) : Option ls_A := match ro_dn A i (x.1 / 128 % 8), ro_dn B j (x.1 / 16 % 8) with
  | some i2, some j2 => some ((i * 9 + j) * 16 + x.1 / 1024, (i2 * 9 + j2) * 16 + x.1 % 16, x.2)
  | _, _ => none
def we_x (A B : List Nat) (i j : Nat) (x : Nat × Nat) : Option ls_A := if x.1 / 16 % 64 = 0 then none else we_xf A B i j x
def we_E (A B : List Nat) (l : List (Nat × Nat)) : List ls_A := (List.range (A.length + 1)).flatMap fun i => (List.range (B.length + 1)).flatMap fun j => l.filterMap (we_xf A B i j)
theorem we_E_mem {A B : List Nat} {l : List (Nat × Nat)} {e : ls_A} : e ∈ we_E A B l ↔ ∃ i j x, i ≤ A.length ∧ j ≤ B.length ∧ x ∈ l ∧ we_xf A B i j x = some e := by
  unfold we_E
  simp only [List.mem_flatMap, List.mem_range, List.mem_filterMap]
  constructor
  · rintro ⟨i, hi, j, hj, x, hx, he⟩
    exact ⟨i, j, x, by omega, by omega, hx, he⟩
  · rintro ⟨i, j, x, hi, hj, hx, he⟩
    exact ⟨i, by omega, j, by omega, x, hx, he⟩
theorem we_xf_some {A B : List Nat} {i j : Nat} {x : Nat × Nat} {e : ls_A} (h : we_xf A B i j x = some e) : ∃ i2 j2, ro_dn A i (x.1 / 128 % 8) = some i2 ∧ ro_dn B j (x.1 / 16 % 8) = some j2 ∧ e = ((i * 9 + j) * 16 + x.1 / 1024, (i2 * 9 + j2) * 16 + x.1 % 16, x.2) := by
  unfold we_xf at h
  split at h
  · rename_i i2 j2 h1 h2
    exact ⟨i2, j2, h1, h2, (Option.some.inj h).symm⟩
  · cases h
theorem we_xf_0 {A B : List Nat} {i j : Nat} {x : Nat × Nat} (h : x.1 / 16 % 64 = 0) : we_xf A B i j x = some ((i * 9 + j) * 16 + x.1 / 1024, (i * 9 + j) * 16 + x.1 % 16, x.2) := by
  have h1 : x.1 / 128 % 8 = 0 := by omega
  have h2 : x.1 / 16 % 8 = 0 := by omega
  unfold we_xf ro_dn
  rw [if_pos h1, if_pos h2]
/-- a step that reads or writes goes on to a later layer -/
theorem we_later {A B : List Nat} {i j : Nat} {x : Nat × Nat} {e : ls_A} (hA : A.length ≤ 8) (hB : B.length ≤ 8) (hi : i ≤ A.length) (hj : j ≤ B.length) (hx : x.1 < 16384) (h : we_x A B i j x = some e) : (i * 9 + j) * 16 + 16 ≤ e.2.1 ∧ e.2.1 < 1296 ∧ e.1 = (i * 9 + j) * 16 + x.1 / 1024 ∧ x.1 / 1024 < 16 := by
  unfold we_x at h
  split at h
  · cases h
  · rename_i hl
    obtain ⟨i2, j2, h1, h2, rfl⟩ := we_xf_some h
    have a1 := ro_dn_le hi h1
    have a2 := ro_dn_le hj h2
    have a3 : i < i2 ∨ j < j2 := by
      unfold ro_dn at h1 h2
      by_cases c1 : x.1 / 128 % 8 = 0
      · have c2 : ¬ x.1 / 16 % 8 = 0 := by omega
        rw [if_neg c2] at h2
        split at h2
        · cases h2; omega
        · cases h2
      · rw [if_neg c1] at h1
        split at h1
        · cases h1; omega
        · cases h1
    refine ⟨?_, ?_, rfl, by omega⟩
    · show (i * 9 + j) * 16 + 16 ≤ (i2 * 9 + j2) * 16 + x.1 % 16
      omega
    · show (i2 * 9 + j2) * 16 + x.1 % 16 < 1296
      omega
def we_L (A B : List Nat) (i j : Nat) (l : List (Nat × Nat)) : List ls_A := l.filterMap (we_x A B i j)
theorem we_L_s {A B : List Nat} {i j k : Nat} {l : List (Nat × Nat)} {x : Nat × Nat} (h : l[k]? = some x) : we_L A B i j (l.take (k + 1)) = we_L A B i j (l.take k) ++ (we_x A B i j x).toList := by
  unfold we_L
  rw [List.take_add_one, h, List.filterMap_append]
  cases he : we_x A B i j x <;> simp [he]
/-- values that a round of such steps leaves -/
theorem we_rd_lo {E : List ls_A} {b : Nat} (hE : ∀ e ∈ E, b ≤ e.2.1) : ∀ (v : ls_V) (t : Nat), t < b → ls_rd E v t = v t := by
  induction E with
  | nil => intro v t _; rfl
  | cons z E ih =>
    intro v t ht
    show ls_rd E (ls_rx v z) t = v t
    rw [ih (fun e he => hE e (List.mem_cons_of_mem _ he)) (ls_rx v z) t ht]
    unfold ls_rx
    split
    · exact gm_un (by have := hE z List.mem_cons_self; omega)
    · rfl
def we_I (A B : List Nat) (l : List (Nat × Nat)) (v0 : ls_V) (c : Nat) (v : ls_V) : Prop := ls_vle v v0 ∧ (∀ Y, ls_vle Y v0 → ls_cl (we_E A B l) Y → ls_vle Y v) ∧ ∀ i j x e, i ≤ A.length → j ≤ B.length → i * 9 + j < c → x ∈ l → we_xf A B i j x = some e → ls_le (v e.2.1) (ls_ad (v e.1) e.2.2)
/-- the values of a layer put into the whole -/
def we_put (v : ls_V) (b : Nat) (u : ls_V) : ls_V := fun t => if b ≤ t ∧ t < b + 16 then u (t - b) else v t
def we_get (v : ls_V) (b : Nat) : ls_V := fun s => if s < 16 then v (b + s) else none
theorem we_put_in {v u : ls_V} {b s : Nat} (hs : s < 16) : we_put v b u (b + s) = u s := by
  unfold we_put
  rw [if_pos (by omega), Nat.add_sub_cancel_left]
theorem we_put_out {v u : ls_V} {b t : Nat} (h : t < b ∨ b + 16 ≤ t) : we_put v b u t = v t := by
  unfold we_put
  rw [if_neg (by omega)]
theorem we_step {A B : List Nat} {l : List (Nat × Nat)} {v0 v u2 : ls_V} {i j : Nat} (hA : A.length ≤ 8) (hB : B.length ≤ 8) (hi : i ≤ A.length) (hj : j ≤ B.length) (hl : ∀ x ∈ l, x.1 < 16384) (h : we_I A B l v0 (i * 9 + j) v) (hu : ls_fix (am_ee l) (we_get v ((i * 9 + j) * 16)) u2) : we_I A B l v0 (i * 9 + j + 1) (ls_rd (we_L A B i j l) (we_put v ((i * 9 + j) * 16) u2)) := by
  obtain ⟨h1, h2, h3⟩ := h
  obtain ⟨u1, u3, u4⟩ := hu
  obtain ⟨b, hb⟩ : ∃ b, b = (i * 9 + j) * 16 := ⟨_, rfl⟩
  rw [← hb] at u1 u4 ⊢
  have hle : ls_vle (we_put v b u2) v := by
    intro t
    by_cases ht : b ≤ t ∧ t < b + 16
    · obtain ⟨s, rfl⟩ : ∃ s, t = b + s := ⟨t - b, by omega⟩
      rw [we_put_in (by omega)]
      have := u1 s
      unfold we_get at this
      rw [if_pos (by omega)] at this
      exact this
    · rw [we_put_out (by omega)]
      exact ls_rf _
  have hLb : ∀ e ∈ we_L A B i j l, b + 16 ≤ e.2.1 := by
    intro e he
    obtain ⟨x, hx, hxe⟩ := List.mem_filterMap.mp he
    rw [hb]
    exact (we_later hA hB hi hj (hl x hx) hxe).1
  have hlo := we_rd_lo hLb (we_put v b u2)
  have hrl := ls_rd_le (we_L A B i j l) (we_put v b u2)
  refine ⟨ls_vtr hrl (ls_vtr hle h1), fun Y y1 y2 => ?_, fun i1 j1 x e hi1 hj1 hc hx hxe => ?_⟩
  · refine ls_rd_ge _ _ (fun t => ?_) (fun e he => ?_)
    · have hYv := h2 Y y1 y2
      by_cases ht : b ≤ t ∧ t < b + 16
      · obtain ⟨s, rfl⟩ : ∃ s, t = b + s := ⟨t - b, by omega⟩
        rw [we_put_in (by omega)]
        have key := u4 (we_get Y b) (fun s => by
          unfold we_get
          by_cases hs : s < 16
          · rw [if_pos hs, if_pos hs]; exact hYv _
          · rw [if_neg hs, if_neg hs]; exact ls_rf _) (fun e he => by
          obtain ⟨x, hx, rfl⟩ := List.mem_map.mp he
          obtain ⟨hx, hx0⟩ := List.mem_filter.mp hx
          have hx0 : x.1 / 16 % 64 = 0 := by simpa using hx0
          have hxl := hl x hx
          have hm : ((b + x.1 / 1024, b + x.1 % 16, x.2) : ls_A) ∈ we_E A B l := we_E_mem.mpr ⟨i, j, x, hi, hj, hx, by rw [we_xf_0 hx0, ← hb]⟩
          have := y2 _ hm
          show ls_le (we_get Y b (x.1 % 16)) (ls_ad (we_get Y b (x.1 / 1024)) x.2)
          unfold we_get
          rw [if_pos (by omega), if_pos (by omega)]
          exact this) s
        unfold we_get at key
        rw [if_pos (by omega)] at key
        exact key
      · rw [we_put_out (by omega)]
        exact hYv t
    · obtain ⟨x, hx, hxe⟩ := List.mem_filterMap.mp he
      have hxe2 : we_xf A B i j x = some e := by
        unfold we_x at hxe
        split at hxe
        · cases hxe
        · exact hxe
      exact y2 e (we_E_mem.mpr ⟨i, j, x, hi, hj, hx, hxe2⟩)
  · have hxl := hl x hx
    obtain ⟨i2, j2, g1, g2, rfl⟩ := we_xf_some hxe
    have a1 := ro_dn_le hi1 g1
    have a2 := ro_dn_le hj1 g2
    show ls_le (ls_rd (we_L A B i j l) (we_put v b u2) ((i2 * 9 + j2) * 16 + x.1 % 16)) (ls_ad (ls_rd (we_L A B i j l) (we_put v b u2) ((i1 * 9 + j1) * 16 + x.1 / 1024)) x.2)
    rw [hlo ((i1 * 9 + j1) * 16 + x.1 / 1024) (by omega)]
    by_cases hc2 : i1 * 9 + j1 < i * 9 + j
    · rw [we_put_out (by omega)]
      exact ls_tr (hrl _) (ls_tr (hle _) (h3 i1 j1 x _ hi1 hj1 hc2 hx hxe))
    · have hi2 : i1 = i := by omega
      have hj2 : j1 = j := by omega
      subst hi2
      subst hj2
      rw [← hb, we_put_in (by omega)]
      by_cases hx0 : x.1 / 16 % 64 = 0
      · rw [we_xf_0 hx0, ← hb] at hxe
        have hxe := congrArg (fun e : ls_A => e.2.1) (Option.some.inj hxe)
        have hxe : b + x.1 % 16 = (i2 * 9 + j2) * 16 + x.1 % 16 := hxe
        rw [← hxe, hlo _ (by omega), we_put_in (by omega)]
        exact u3 (am_xe x) (List.mem_map.mpr ⟨x, List.mem_filter.mpr ⟨hx, by simpa using hx0⟩, rfl⟩)
      · have hm : ((b + x.1 / 1024, (i2 * 9 + j2) * 16 + x.1 % 16, x.2) : ls_A) ∈ we_L A B i1 j1 l := List.mem_filterMap.mpr ⟨x, hx, by rw [we_x, if_neg hx0, hxe, hb]⟩
        have := ls_rd_to (we_L A B i1 j1 l) (we_put v b u2) _ hm
        have this : ls_le (ls_rd (we_L A B i1 j1 l) (we_put v b u2) ((i2 * 9 + j2) * 16 + x.1 % 16)) (ls_ad (we_put v b u2 (b + x.1 / 1024)) x.2) := this
        rw [we_put_in (by omega)] at this
        exact this
theorem we_end {A B : List Nat} {l : List (Nat × Nat)} {v0 v : ls_V} (hB : B.length ≤ 8) (h : we_I A B l v0 (A.length * 9 + B.length + 1) v) : ls_fix (we_E A B l) v0 v := by
  refine ⟨h.1, fun e he => ?_, h.2.1⟩
  obtain ⟨i, j, x, hi, hj, hx, hxe⟩ := we_E_mem.mp he
  have : i * 9 ≤ A.length * 9 := Nat.mul_le_mul_right 9 hi
  exact h.2.2 i j x e hi hj (by omega) hx hxe
theorem we_row {A B : List Nat} {l : List (Nat × Nat)} {v0 v : ls_V} {i : Nat} (hB : B.length ≤ 8) (h : we_I A B l v0 (i * 9 + B.length + 1) v) : we_I A B l v0 ((i + 1) * 9 + 0) v := by
  refine ⟨h.1, h.2.1, fun i1 j1 x e hi1 hj1 hc hx hxe => h.2.2 i1 j1 x e hi1 hj1 (by omega) hx hxe⟩
def we_v0 (s0 w : Nat) : ls_V := fun t => if t = s0 then some w else none
def we_V (A B : List Nat) (l : List (Nat × Nat)) (s0 w : Nat) : ls_V := ls_it (we_E A B l) 1300 (we_v0 s0 w)
def we_an (a : am_T) (x y : Int32) : Option Nat := match ro_of x, ro_of y, am_st a with
  | some L, some L2, some s => ba_le (fun q => we_V L.reverse L2.reverse (am_ar a) s.1 s.2 ((L.length * 9 + L2.length) * 16 + q)) (am_en a) (am_n a)
  | _, _, _ => none
def we_in (f : Nat → Int64) (v : ls_V) : Prop := ∀ t, t < 1296 → f t = am_f (v t)
theorem we_E_lt {A B : List Nat} {l : List (Nat × Nat)} (hA : A.length ≤ 8) (hB : B.length ≤ 8) (hl : ∀ x ∈ l, x.1 < 16384) : ∀ e ∈ we_E A B l, e.1 < 1296 ∧ e.2.1 < 1296 := by
  intro e he
  obtain ⟨i, j, x, hi, hj, hx, hxe⟩ := we_E_mem.mp he
  obtain ⟨i2, j2, g1, g2, rfl⟩ := we_xf_some hxe
  have := hl x hx
  have a1 := ro_dn_le hi g1
  have a2 := ro_dn_le hj g2
  constructor
  · show (i * 9 + j) * 16 + x.1 / 1024 < 1296
    omega
  · show (i2 * 9 + j2) * 16 + x.1 % 16 < 1296
    omega
