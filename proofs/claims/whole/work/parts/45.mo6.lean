theorem dd_Mo_compose_0 : decode cc_Mo_compose 0 = .ok (.iload_n 1, 1) := by decide +kernel
theorem dd_Mo_compose_1 : decode cc_Mo_compose 1 = .ok (.invokestatic 81, 3) := by decide +kernel
theorem dd_Mo_compose_4 : decode cc_Mo_compose 4 = .ok (.ifCond .eq 17, 3) := by decide +kernel
theorem dd_Mo_compose_7 : decode cc_Mo_compose 7 = .ok (.iload_n 2, 1) := by decide +kernel
theorem dd_Mo_compose_8 : decode cc_Mo_compose 8 = .ok (.invokestatic 81, 3) := by decide +kernel
theorem dd_Mo_compose_11 : decode cc_Mo_compose 11 = .ok (.ifCond .eq 10, 3) := by decide +kernel
theorem dd_Mo_compose_14 : decode cc_Mo_compose 14 = .ok (.iload_n 3, 1) := by decide +kernel
theorem dd_Mo_compose_15 : decode cc_Mo_compose 15 = .ok (.invokestatic 81, 3) := by decide +kernel
theorem dd_Mo_compose_18 : decode cc_Mo_compose 18 = .ok (.ifCond .ne 5, 3) := by decide +kernel
theorem dd_Mo_compose_21 : decode cc_Mo_compose 21 = .ok (.iconst (-1), 1) := by decide +kernel
theorem dd_Mo_compose_22 : decode cc_Mo_compose 22 = .ok (.ireturn, 1) := by decide +kernel
theorem dd_Mo_compose_23 : decode cc_Mo_compose 23 = .ok (.aload_n 0, 1) := by decide +kernel
theorem dd_Mo_compose_24 : decode cc_Mo_compose 24 = .ok (.iconst 4, 1) := by decide +kernel
theorem dd_Mo_compose_25 : decode cc_Mo_compose 25 = .ok (.iconst 0, 1) := by decide +kernel
theorem dd_Mo_compose_26 : decode cc_Mo_compose 26 = .ok (.invokevirtual 75, 3) := by decide +kernel
theorem dd_Mo_compose_29 : decode cc_Mo_compose 29 = .ok (.aload_n 0, 1) := by decide +kernel
theorem dd_Mo_compose_30 : decode cc_Mo_compose 30 = .ok (.iconst 0, 1) := by decide +kernel
theorem dd_Mo_compose_31 : decode cc_Mo_compose 31 = .ok (.putfield 103, 3) := by decide +kernel
theorem dd_Mo_compose_34 : decode cc_Mo_compose 34 = .ok (.aload_n 0, 1) := by decide +kernel
theorem dd_Mo_compose_35 : decode cc_Mo_compose 35 = .ok (.getfield 13, 3) := by decide +kernel
theorem dd_Mo_compose_38 : decode cc_Mo_compose 38 = .ok (.iload_n 1, 1) := by decide +kernel
theorem dd_Mo_compose_39 : decode cc_Mo_compose 39 = .ok (.iaload, 1) := by decide +kernel
theorem dd_Mo_compose_40 : decode cc_Mo_compose 40 = .ok (.ifCond .lt 54, 3) := by decide +kernel
theorem dd_Mo_compose_43 : decode cc_Mo_compose 43 = .ok (.aload_n 0, 1) := by decide +kernel
theorem dd_Mo_compose_44 : decode cc_Mo_compose 44 = .ok (.getfield 13, 3) := by decide +kernel
theorem dd_Mo_compose_47 : decode cc_Mo_compose 47 = .ok (.iload_n 2, 1) := by decide +kernel
theorem dd_Mo_compose_48 : decode cc_Mo_compose 48 = .ok (.iaload, 1) := by decide +kernel
theorem dd_Mo_compose_49 : decode cc_Mo_compose 49 = .ok (.ifCond .lt 45, 3) := by decide +kernel
theorem dd_Mo_compose_52 : decode cc_Mo_compose 52 = .ok (.aload_n 0, 1) := by decide +kernel
theorem dd_Mo_compose_53 : decode cc_Mo_compose 53 = .ok (.getfield 13, 3) := by decide +kernel
theorem dd_Mo_compose_56 : decode cc_Mo_compose 56 = .ok (.iconst 4, 1) := by decide +kernel
theorem dd_Mo_compose_57 : decode cc_Mo_compose 57 = .ok (.aload_n 0, 1) := by decide +kernel
theorem dd_Mo_compose_58 : decode cc_Mo_compose 58 = .ok (.aload_n 0, 1) := by decide +kernel
theorem dd_Mo_compose_59 : decode cc_Mo_compose 59 = .ok (.getfield 13, 3) := by decide +kernel
theorem dd_Mo_compose_62 : decode cc_Mo_compose 62 = .ok (.iload_n 1, 1) := by decide +kernel
theorem dd_Mo_compose_63 : decode cc_Mo_compose 63 = .ok (.iaload, 1) := by decide +kernel
theorem dd_Mo_compose_64 : decode cc_Mo_compose 64 = .ok (.aload_n 0, 1) := by decide +kernel
theorem dd_Mo_compose_65 : decode cc_Mo_compose 65 = .ok (.getfield 13, 3) := by decide +kernel
theorem dd_Mo_compose_68 : decode cc_Mo_compose 68 = .ok (.iload_n 2, 1) := by decide +kernel
theorem dd_Mo_compose_69 : decode cc_Mo_compose 69 = .ok (.iaload, 1) := by decide +kernel
theorem dd_Mo_compose_70 : decode cc_Mo_compose 70 = .ok (.iconst 0, 1) := by decide +kernel
theorem dd_Mo_compose_71 : decode cc_Mo_compose 71 = .ok (.invokevirtual 107, 3) := by decide +kernel
theorem dd_Mo_compose_74 : decode cc_Mo_compose 74 = .ok (.iastore, 1) := by decide +kernel
theorem dd_Mo_compose_75 : decode cc_Mo_compose 75 = .ok (.aload_n 0, 1) := by decide +kernel
theorem dd_Mo_compose_76 : decode cc_Mo_compose 76 = .ok (.getfield 16, 3) := by decide +kernel
theorem dd_Mo_compose_79 : decode cc_Mo_compose 79 = .ok (.iconst 4, 1) := by decide +kernel
theorem dd_Mo_compose_80 : decode cc_Mo_compose 80 = .ok (.aload_n 0, 1) := by decide +kernel
theorem dd_Mo_compose_81 : decode cc_Mo_compose 81 = .ok (.getfield 16, 3) := by decide +kernel
theorem dd_Mo_compose_84 : decode cc_Mo_compose 84 = .ok (.iload_n 1, 1) := by decide +kernel
theorem dd_Mo_compose_85 : decode cc_Mo_compose 85 = .ok (.laload, 1) := by decide +kernel
theorem dd_Mo_compose_86 : decode cc_Mo_compose 86 = .ok (.aload_n 0, 1) := by decide +kernel
theorem dd_Mo_compose_87 : decode cc_Mo_compose 87 = .ok (.getfield 16, 3) := by decide +kernel
theorem dd_Mo_compose_90 : decode cc_Mo_compose 90 = .ok (.iload_n 2, 1) := by decide +kernel
theorem dd_Mo_compose_91 : decode cc_Mo_compose 91 = .ok (.laload, 1) := by decide +kernel
theorem dd_Mo_compose_92 : decode cc_Mo_compose 92 = .ok (.ladd, 1) := by decide +kernel
theorem dd_Mo_compose_93 : decode cc_Mo_compose 93 = .ok (.lastore, 1) := by decide +kernel
theorem dd_Mo_compose_94 : decode cc_Mo_compose 94 = .ok (.aload_n 0, 1) := by decide +kernel
theorem dd_Mo_compose_95 : decode cc_Mo_compose 95 = .ok (.iload_n 1, 1) := by decide +kernel
theorem dd_Mo_compose_96 : decode cc_Mo_compose 96 = .ok (.iload_n 2, 1) := by decide +kernel
theorem dd_Mo_compose_97 : decode cc_Mo_compose 97 = .ok (.invokevirtual 123, 3) := by decide +kernel
theorem dd_Mo_compose_100 : decode cc_Mo_compose 100 = .ok (.ifCond .ne 6, 3) := by decide +kernel
theorem dd_Mo_compose_103 : decode cc_Mo_compose 103 = .ok (.bipush (-2), 2) := by decide +kernel
theorem dd_Mo_compose_105 : decode cc_Mo_compose 105 = .ok (.ireturn, 1) := by decide +kernel
theorem dd_Mo_compose_106 : decode cc_Mo_compose 106 = .ok (.aload_n 0, 1) := by decide +kernel
theorem dd_Mo_compose_107 : decode cc_Mo_compose 107 = .ok (.getfield 7, 3) := by decide +kernel
theorem dd_Mo_compose_110 : decode cc_Mo_compose 110 = .ok (.iconst 4, 1) := by decide +kernel
theorem dd_Mo_compose_111 : decode cc_Mo_compose 111 = .ok (.aload_n 0, 1) := by decide +kernel
theorem dd_Mo_compose_112 : decode cc_Mo_compose 112 = .ok (.getfield 103, 3) := by decide +kernel
theorem dd_Mo_compose_115 : decode cc_Mo_compose 115 = .ok (.iastore, 1) := by decide +kernel
theorem dd_Mo_compose_116 : decode cc_Mo_compose 116 = .ok (.iconst 0, 1) := by decide +kernel
theorem dd_Mo_compose_117 : decode cc_Mo_compose 117 = .ok (.istore 4, 2) := by decide +kernel
theorem dd_Mo_compose_119 : decode cc_Mo_compose 119 = .ok (.iload 4, 2) := by decide +kernel
theorem dd_Mo_compose_121 : decode cc_Mo_compose 121 = .ok (.aload_n 0, 1) := by decide +kernel
theorem dd_Mo_compose_122 : decode cc_Mo_compose 122 = .ok (.getfield 103, 3) := by decide +kernel
theorem dd_Mo_compose_125 : decode cc_Mo_compose 125 = .ok (.if_icmp .ge 91, 3) := by decide +kernel
theorem dd_Mo_compose_128 : decode cc_Mo_compose 128 = .ok (.aload_n 0, 1) := by decide +kernel
theorem dd_Mo_compose_129 : decode cc_Mo_compose 129 = .ok (.getfield 20, 3) := by decide +kernel
theorem dd_Mo_compose_132 : decode cc_Mo_compose 132 = .ok (.bipush 16, 2) := by decide +kernel
theorem dd_Mo_compose_134 : decode cc_Mo_compose 134 = .ok (.iload_n 1, 1) := by decide +kernel
theorem dd_Mo_compose_135 : decode cc_Mo_compose 135 = .ok (.imul, 1) := by decide +kernel
theorem dd_Mo_compose_136 : decode cc_Mo_compose 136 = .ok (.aload_n 0, 1) := by decide +kernel
theorem dd_Mo_compose_137 : decode cc_Mo_compose 137 = .ok (.getfield 69, 3) := by decide +kernel
theorem dd_Mo_compose_140 : decode cc_Mo_compose 140 = .ok (.iload 4, 2) := by decide +kernel
theorem dd_Mo_compose_142 : decode cc_Mo_compose 142 = .ok (.iaload, 1) := by decide +kernel
theorem dd_Mo_compose_143 : decode cc_Mo_compose 143 = .ok (.bipush 16, 2) := by decide +kernel
theorem dd_Mo_compose_145 : decode cc_Mo_compose 145 = .ok (.irem, 1) := by decide +kernel
theorem dd_Mo_compose_146 : decode cc_Mo_compose 146 = .ok (.iadd, 1) := by decide +kernel
theorem dd_Mo_compose_147 : decode cc_Mo_compose 147 = .ok (.laload, 1) := by decide +kernel
theorem dd_Mo_compose_148 : decode cc_Mo_compose 148 = .ok (.lstore 5, 2) := by decide +kernel
theorem dd_Mo_compose_150 : decode cc_Mo_compose 150 = .ok (.aload_n 0, 1) := by decide +kernel
theorem dd_Mo_compose_151 : decode cc_Mo_compose 151 = .ok (.getfield 20, 3) := by decide +kernel
theorem dd_Mo_compose_154 : decode cc_Mo_compose 154 = .ok (.bipush 16, 2) := by decide +kernel
theorem dd_Mo_compose_156 : decode cc_Mo_compose 156 = .ok (.iload_n 2, 1) := by decide +kernel
theorem dd_Mo_compose_157 : decode cc_Mo_compose 157 = .ok (.imul, 1) := by decide +kernel
theorem dd_Mo_compose_158 : decode cc_Mo_compose 158 = .ok (.aload_n 0, 1) := by decide +kernel
theorem dd_Mo_compose_159 : decode cc_Mo_compose 159 = .ok (.getfield 69, 3) := by decide +kernel
theorem dd_Mo_compose_162 : decode cc_Mo_compose 162 = .ok (.iload 4, 2) := by decide +kernel
theorem dd_Mo_compose_164 : decode cc_Mo_compose 164 = .ok (.iaload, 1) := by decide +kernel
theorem dd_Mo_compose_165 : decode cc_Mo_compose 165 = .ok (.bipush 16, 2) := by decide +kernel
theorem dd_Mo_compose_167 : decode cc_Mo_compose 167 = .ok (.idiv, 1) := by decide +kernel
theorem dd_Mo_compose_168 : decode cc_Mo_compose 168 = .ok (.bipush 16, 2) := by decide +kernel
theorem dd_Mo_compose_170 : decode cc_Mo_compose 170 = .ok (.irem, 1) := by decide +kernel
theorem dd_Mo_compose_171 : decode cc_Mo_compose 171 = .ok (.iadd, 1) := by decide +kernel
theorem dd_Mo_compose_172 : decode cc_Mo_compose 172 = .ok (.laload, 1) := by decide +kernel
theorem dd_Mo_compose_173 : decode cc_Mo_compose 173 = .ok (.lstore 7, 2) := by decide +kernel
theorem dd_Mo_compose_175 : decode cc_Mo_compose 175 = .ok (.aload_n 0, 1) := by decide +kernel
theorem dd_Mo_compose_176 : decode cc_Mo_compose 176 = .ok (.getfield 20, 3) := by decide +kernel
theorem dd_Mo_compose_179 : decode cc_Mo_compose 179 = .ok (.bipush 64, 2) := by decide +kernel
theorem dd_Mo_compose_181 : decode cc_Mo_compose 181 = .ok (.iload 4, 2) := by decide +kernel
theorem dd_Mo_compose_183 : decode cc_Mo_compose 183 = .ok (.iadd, 1) := by decide +kernel
theorem dd_Mo_compose_184 : decode cc_Mo_compose 184 = .ok (.lload 5, 2) := by decide +kernel
theorem dd_Mo_compose_186 : decode cc_Mo_compose 186 = .ok (.lconst 0, 1) := by decide +kernel
theorem dd_Mo_compose_187 : decode cc_Mo_compose 187 = .ok (.lcmp, 1) := by decide +kernel
theorem dd_Mo_compose_188 : decode cc_Mo_compose 188 = .ok (.ifCond .lt 10, 3) := by decide +kernel
theorem dd_Mo_compose_191 : decode cc_Mo_compose 191 = .ok (.lload 7, 2) := by decide +kernel
theorem dd_Mo_compose_193 : decode cc_Mo_compose 193 = .ok (.lconst 0, 1) := by decide +kernel
theorem dd_Mo_compose_194 : decode cc_Mo_compose 194 = .ok (.lcmp, 1) := by decide +kernel
theorem dd_Mo_compose_195 : decode cc_Mo_compose 195 = .ok (.ifCond .ge 9, 3) := by decide +kernel
theorem dd_Mo_compose_198 : decode cc_Mo_compose 198 = .ok (.ldc2_w 79, 3) := by decide +kernel
theorem dd_Mo_compose_201 : decode cc_Mo_compose 201 = .ok (.goto 8, 3) := by decide +kernel
theorem dd_Mo_compose_204 : decode cc_Mo_compose 204 = .ok (.lload 5, 2) := by decide +kernel
theorem dd_Mo_compose_206 : decode cc_Mo_compose 206 = .ok (.lload 7, 2) := by decide +kernel
theorem dd_Mo_compose_208 : decode cc_Mo_compose 208 = .ok (.ladd, 1) := by decide +kernel
theorem dd_Mo_compose_209 : decode cc_Mo_compose 209 = .ok (.lastore, 1) := by decide +kernel
theorem dd_Mo_compose_210 : decode cc_Mo_compose 210 = .ok (.iinc 4 1, 3) := by decide +kernel
theorem dd_Mo_compose_213 : decode cc_Mo_compose 213 = .ok (.goto (-94), 3) := by decide +kernel
theorem dd_Mo_compose_216 : decode cc_Mo_compose 216 = .ok (.aload_n 0, 1) := by decide +kernel
theorem dd_Mo_compose_217 : decode cc_Mo_compose 217 = .ok (.iload_n 3, 1) := by decide +kernel
theorem dd_Mo_compose_218 : decode cc_Mo_compose 218 = .ok (.invokevirtual 126, 3) := by decide +kernel
theorem dd_Mo_compose_221 : decode cc_Mo_compose 221 = .ok (.ifCond .eq 10, 3) := by decide +kernel
theorem dd_Mo_compose_224 : decode cc_Mo_compose 224 = .ok (.aload_n 0, 1) := by decide +kernel
theorem dd_Mo_compose_225 : decode cc_Mo_compose 225 = .ok (.getfield 103, 3) := by decide +kernel
theorem dd_Mo_compose_228 : decode cc_Mo_compose 228 = .ok (.goto 5, 3) := by decide +kernel
theorem dd_Mo_compose_231 : decode cc_Mo_compose 231 = .ok (.bipush (-2), 2) := by decide +kernel
theorem dd_Mo_compose_233 : decode cc_Mo_compose 233 = .ok (.ireturn, 1) := by decide +kernel
theorem o_keep_y {σ : sg} {c : Nat} {b : am_T} {g : am_T → Nat} (h : am_fit b = true) : o_keep σ c (some b) g = (nI (g b), o_set σ c b) := if_pos h
theorem o_keep_n {σ : sg} {c : Nat} {b : am_T} {g : am_T → Nat} (h : am_fit b = false) : o_keep σ c (some b) g = (-2, σ) := if_neg (by rw [h]; decide)
theorem mo_is_n {F F2 : mo_F} {L : mo_L} {s n : Nat} {a : am_T} (hF : F2 = va_up F 44 (upd (F 44) s (nI n))) (h : mo_is F L s a) : mo_is F2 L s (n, am_st a, am_en a, am_ar a) := by
  have e : ∀ k, k ≠ 44 → F2 k = F k := fun k hk => by rw [hF, gm_un hk]
  obtain ⟨h1, h2, h3, h4, h5, h6⟩ := h
  refine ⟨by rw [hF, gm_us, pk_us], by rw [e 45 (by decide)]; exact h2, h3, by rw [e 48 (by decide)]; exact h4, ?_, h6⟩
  unfold mo_a
  rw [e 49 (by decide), e 50 (by decide), e 51 (by decide), e 52 (by decide)]
  exact h5
theorem mc_esb {a b : am_T} (ha : ∀ q e, am_en a q = some e → e < 1000000001) (hb : ∀ q e, am_en b q = some e → e < 1000000001) (T : List co_t) (s q e : Nat) (h : co_es a b T s q = some e) : e < 4000000000 := by
  unfold co_es at h
  split at h
  · split at h
    · cases h
    · exact Nat.lt_of_lt_of_le (co_oa_b (B := 1000000001) (fun z hz => ha _ z hz) (fun z hz => hb _ z hz) e h) (by decide)
  · cases h
set_option maxRecDepth 100000 in
set_option maxHeartbeats 4000000 in
theorem ct_Mo_compose (l : Launch) (D : va_G) (dA : Nat → ClassId) (ad : Nat → Nat) (h : Nat → va_E) (F : mo_F) (L : mo_L) (S : Nat → Int32) {σ : sg} (hr : rs F L S σ) (hσ : sg_ok σ) (a b c : Int32) : gx_Ct l D dA yy_Mo_compose cc_Mo_compose 9 (some .int) 5 0 0 [.ref (ad 43), .int a, .int b, .int c] (gx_w ad (mo_h dA ad h F L S)) (fun v w => ∃ F2 L2 S2, w = (gx_w ad (mo_h dA ad h F2 L2 S2)) ∧ rs F2 L2 S2 (o_compose σ a b c).2 ∧ v = some (.int (o_compose σ a b c).1)) := by
  refine gx_of (by decide) (Nat.le_of_ble_eq_true rfl) (fun K C _ _ => ?_)
  have hM := hr.1
  have hP := hr.2.1
  have hX := hr.2.2
  refine gx_iload_n C 1 dd_Mo_compose_0 (kk := ?_)
  refine gx_callS C (ct_Mo_isSlot (gx_l K) D dA _ a) me_Mo_isSlot ml_Mo_81 ms_Mo_isSlot dd_Mo_compose_1 (kk := fun v w hq => ?_)
  obtain ⟨rfl, rfl⟩ := hq
  rcases hi : ix 4 a with _ | i
  · refine gx_if_eq C 21 dd_Mo_compose_4 (fun h4 => ?_) (fun h4 => absurd rfl h4)
    refine gx_iconst (v := -1) C dd_Mo_compose_21 (kk := ?_)
    refine gx_iret C dd_Mo_compose_22 ?_
    have hsp : o_compose σ a b c = (-1, σ) := by
      unfold o_compose
      simp only [hi]
    rw [hsp]
    exact ⟨F, L, S, rfl, hr, rfl⟩
  · obtain ⟨hi4, rfl⟩ := ix_of (by decide) hi
    refine gx_if_eq C 21 dd_Mo_compose_4 (fun h4 => absurd (show true = false from fb_0.mp h4) (by decide)) (fun h4 => ?_)
    refine gx_iload_n C 2 dd_Mo_compose_7 (kk := ?_)
    refine gx_callS C (ct_Mo_isSlot (gx_l K) D dA _ b) me_Mo_isSlot ml_Mo_81 ms_Mo_isSlot dd_Mo_compose_8 (kk := fun v w hq => ?_)
    obtain ⟨rfl, rfl⟩ := hq
    rcases hj : ix 4 b with _ | j
    · refine gx_if_eq C 21 dd_Mo_compose_11 (fun h11 => ?_) (fun h11 => absurd rfl h11)
      refine gx_iconst (v := -1) C dd_Mo_compose_21 (kk := ?_)
      refine gx_iret C dd_Mo_compose_22 ?_
      have hsp : o_compose σ (nI i) b c = (-1, σ) := by
        unfold o_compose
        simp only [hi, hj]
      rw [hsp]
      exact ⟨F, L, S, rfl, hr, rfl⟩
    · obtain ⟨hj4, rfl⟩ := ix_of (by decide) hj
      refine gx_if_eq C 21 dd_Mo_compose_11 (fun h11 => absurd (show true = false from fb_0.mp h11) (by decide)) (fun h11 => ?_)
      refine gx_iload_n C 3 dd_Mo_compose_14 (kk := ?_)
      refine gx_callS C (ct_Mo_isSlot (gx_l K) D dA _ c) me_Mo_isSlot ml_Mo_81 ms_Mo_isSlot dd_Mo_compose_15 (kk := fun v w hq => ?_)
      obtain ⟨rfl, rfl⟩ := hq
      rcases hk : ix 4 c with _ | k
      · refine gx_if_ne C 23 dd_Mo_compose_18 (fun h18 => absurd rfl h18) (fun h18 => ?_)
        refine gx_iconst (v := -1) C dd_Mo_compose_21 (kk := ?_)
        refine gx_iret C dd_Mo_compose_22 ?_
        have hsp : o_compose σ (nI i) (nI j) c = (-1, σ) := by
          unfold o_compose
          simp only [hi, hj, hk]
        rw [hsp]
        exact ⟨F, L, S, rfl, hr, rfl⟩
      · obtain ⟨hk4, rfl⟩ := ix_of (by decide) hk
        refine gx_if_ne C 23 dd_Mo_compose_18 (fun h18 => ?_) (fun h18 => absurd (show true = false from fb_0.mp h18) (by decide))
        refine gx_aload_n C 0 dd_Mo_compose_23 (kk := ?_)
        refine gx_iconst (v := nI 4) C dd_Mo_compose_24 (kk := ?_)
        refine gx_iconst (v := nI 0) C dd_Mo_compose_25 (kk := ?_)
        refine gx_callV C (ct_Mo_blank (gx_l K) D dA ad h F L S (s := 4) (n := 0) (by decide)) me_Mo_blank ml_Mo_75 mn_Mo_blank _ (gx_w_at (by decide) mo_h_43) rfl dd_Mo_compose_26 (kk := fun v w hq => ?_)
        obtain ⟨rfl, F2, L2, rfl, hM4, hf4⟩ := hq
        refine gx_aload_n C 0 dd_Mo_compose_29 (kk := ?_)
        refine gx_iconst (v := nI 0) C dd_Mo_compose_30 (kk := ?_)
        refine mo_put_27 C fw_Mo_103 dd_Mo_compose_31 (kk := fun S31 hS31 => ?_)
        have hok := hσ.1 i hi4
        have hok2 := hσ.1 j hj4
        rcases hsa : am_st (σ.1 i) with _ | xa
        · have hsqA := (mo_w_is (mo_w_fr hf4) hi4 (hM i hi4)).2.1
          rw [hsa] at hsqA
          refine gx_aload_n C 0 dd_Mo_compose_34 (kk := ?_)
          refine mo_get C fd_Mo_13 dd_Mo_compose_35 (kk := ?_)
          refine gx_iload_n C 1 dd_Mo_compose_38 (kk := ?_)
          refine mo_l45 C dd_Mo_compose_39 (by omega) (kk := ?_)
          refine gx_topi _ hsqA.1 ?_
          refine gx_if_lt C 94 dd_Mo_compose_40 (fun h40 => ?_) (fun h40 => absurd (by decide) h40)
          have hw9 : mo_w F L F2 L2 := mo_w_fr hf4
          have hiv9 : mc_iv F2 L2 S31 none ([], []) := ⟨hM4, ⟨by rw [hS31, gm_us]; rfl, fun k u hu => absurd hu (by simp), fun u hu => absurd hu List.not_mem_nil, Nat.zero_le _⟩, List.Pairwise.nil, fun x hx => absurd hx List.not_mem_nil⟩
          have hS9 : ∀ k, k ≠ 27 → S31 k = S k := fun k hk => by rw [hS31, gm_un hk]
          refine gx_aload_n C 0 dd_Mo_compose_94 (kk := ?_)
          refine gx_iload_n C 1 dd_Mo_compose_95 (kk := ?_)
          refine gx_iload_n C 2 dd_Mo_compose_96 (kk := ?_)
          refine gx_callV C (ct_Mo_explore (gx_l K) D dA ad h F2 L2 S31 hi4 hj4 (mo_w_is hw9 hi4 (hM i hi4)) (mo_w_is hw9 hj4 (hM j hj4)) hok.1.2.2.1 hok2.1.2.2.1 hiv9) me_Mo_explore ml_Mo_123 mn_Mo_explore _ (gx_w_at (by decide) mo_h_43) rfl dd_Mo_compose_97 (kk := fun v w hq => ?_)
          obtain ⟨F5, L5, S5, rfl, hwa, hSa, hra⟩ := hq
          have hw5 := mo_w_tr hw9 hwa
          have hS5 := mo_s_r hS9 hSa
          have hx : co_ex (am_ar (σ.1 i)) (am_ar (σ.1 j)) 16 0 ([], []) = some ([], []) := mc_exn (Nat.le_refl _)
          rw [hx] at hra
          obtain ⟨rfl, hiv5⟩ := hra
          have hl16 := hiv5.2.1.2.2.2
          · refine gx_if_ne C 106 dd_Mo_compose_100 (fun h100 => ?_) (fun h100 => absurd h100 (by decide))
            refine gx_aload_n C 0 dd_Mo_compose_106 (kk := ?_)
            refine mo_get C fd_Mo_7 dd_Mo_compose_107 (kk := ?_)
            refine gx_iconst (v := nI 4) C dd_Mo_compose_110 (kk := ?_)
            refine gx_aload_n C 0 dd_Mo_compose_111 (kk := ?_)
            refine mo_get C fd_Mo_103 dd_Mo_compose_112 (kk := ?_)
            refine gx_topi _ hiv5.2.1.1 ?_
            refine mo_s44 C dd_Mo_compose_115 (by omega) (kk := fun F115 hF115 => ?_)
            refine gx_iconst (v := nI 0) C dd_Mo_compose_116 (kk := ?_)
            refine gx_istore C _ dd_Mo_compose_117 (kk := ?_)
            have loop : ∀ m k5 L1, k5 + m = (([], []) : co_S).1.length → mo_is F115 L1 4 ((([], []) : co_S).1.length, none, co_es (σ.1 i) (σ.1 j) (([], []) : co_S).1 k5, (([], []) : co_S).2) → mo_w F L F115 L1 → gx_G K D 9 0 0 119 [(4, .int (nI k5)), (0, .ref (ad 43)), (1, .int (nI i)), (2, .int (nI j)), (3, .int (nI k))] [] (gx_w ad (mo_h dA ad h F115 L1 S5)) (gx_Z K D dA 0 0 (fun v w => ∃ F2 L2 S2, w = (gx_w ad (mo_h dA ad h F2 L2 S2)) ∧ rs F2 L2 S2 (o_compose σ (nI i) (nI j) (nI k)).2 ∧ v = some (.int (o_compose σ (nI i) (nI j) (nI k)).1))) := by
              intro m
              induction m with
              | zero =>
                intro k5 L1 hk5 hM5 hw1
                refine gx_iload C 0 dd_Mo_compose_119 (kk := ?_)
                refine gx_aload_n C 1 dd_Mo_compose_121 (kk := ?_)
                refine mo_get C fd_Mo_103 dd_Mo_compose_122 (kk := ?_)
                refine gx_topi _ hiv5.2.1.1 ?_
                refine gx_icmp_ge C 216 dd_Mo_compose_125 (fun h125 => ?_) (fun h125 => absurd (nI_le (a := (([], []) : co_S).1.length) (b := k5) (by omega) (by omega)) h125)
                refine gx_aload_n C 1 dd_Mo_compose_216 (kk := ?_)
                refine gx_iload_n C 4 dd_Mo_compose_217 (kk := ?_)
                refine gx_callV C (ct_Mo_keep (gx_l K) D dA ad h F115 L1 S5 (c := k) (B := 4000000000) (b := ((([], []) : co_S).1.length, none, co_es (σ.1 i) (σ.1 j) (([], []) : co_S).1 (([], []) : co_S).1.length, (([], []) : co_S).2)) (by omega) (by rw [show k5 = (([], []) : co_S).1.length by omega] at hM5; exact hM5) hl16 (by decide) (fun x hx => (hiv5.2.2.2 x hx).2) (mc_esb hok.1.2.2.2.1 hok2.1.2.2.2.1 (([], []) : co_S).1 (([], []) : co_S).1.length) (fun x hx => by cases hx)) me_Mo_keep ml_Mo_126 mn_Mo_keep _ (gx_w_at (by decide) mo_h_43) rfl dd_Mo_compose_218 (kk := fun v w hq => ?_)
                rcases hq with ⟨hfit, rfl, F7, L7, rfl, hM7, hf7⟩ | ⟨hfit, rfl, rfl⟩
                · refine gx_if_eq C 231 dd_Mo_compose_221 (fun h221 => absurd h221 (by decide)) (fun h221 => ?_)
                  refine gx_aload_n C 1 dd_Mo_compose_224 (kk := ?_)
                  refine mo_get C fd_Mo_103 dd_Mo_compose_225 (kk := ?_)
                  refine gx_topi _ hiv5.2.1.1 ?_
                  refine gx_goto C 233 dd_Mo_compose_228 (kk := ?_)
                  refine gx_iret C dd_Mo_compose_233 ?_
                  have hmk : co_mk (σ.1 i) (σ.1 j) = some ((([], []) : co_S).1.length, none, co_es (σ.1 i) (σ.1 j) (([], []) : co_S).1 (([], []) : co_S).1.length, (([], []) : co_S).2) := by
                    show _ = some (0, none, co_es (σ.1 i) (σ.1 j) [] 0, [])
                    rw [co_es_0]
                    unfold co_mk
                    rw [hsa]
                  have hsp : o_compose σ (nI i) (nI j) (nI k) = (nI (([], []) : co_S).1.length, o_set σ k ((([], []) : co_S).1.length, none, co_es (σ.1 i) (σ.1 j) (([], []) : co_S).1 (([], []) : co_S).1.length, (([], []) : co_S).2)) := by
                    unfold o_compose
                    simp only [hi, hj, hk]
                    rw [hmk]
                    exact o_keep_y hfit
                  rw [hsp]
                  exact ⟨F7, L7, _, rfl, rs_set hf7 hM7 (mo_w_rs hw1 (hS5 10 (by decide)) (hS5 14 (by decide)) hr), rfl⟩
                · refine gx_if_eq C 231 dd_Mo_compose_221 (fun h221 => ?_) (fun h221 => absurd rfl h221)
                  refine gx_bipush (v := -2) C dd_Mo_compose_231 (kk := ?_)
                  refine gx_iret C dd_Mo_compose_233 ?_
                  have hmk : co_mk (σ.1 i) (σ.1 j) = some ((([], []) : co_S).1.length, none, co_es (σ.1 i) (σ.1 j) (([], []) : co_S).1 (([], []) : co_S).1.length, (([], []) : co_S).2) := by
                    show _ = some (0, none, co_es (σ.1 i) (σ.1 j) [] 0, [])
                    rw [co_es_0]
                    unfold co_mk
                    rw [hsa]
                  have hsp : o_compose σ (nI i) (nI j) (nI k) = (-2, σ) := by
                    unfold o_compose
                    simp only [hi, hj, hk]
                    rw [hmk]
                    exact o_keep_n hfit
                  rw [hsp]
                  exact ⟨_, _, _, rfl, mo_w_rs hw1 (hS5 10 (by decide)) (hS5 14 (by decide)) hr, rfl⟩
              | succ m ih =>
                intro k5 L1 hk5 hM5 hw1
                obtain ⟨t, ht⟩ : ∃ t, (([], []) : co_S).1[k5]? = some t := ⟨_, List.getElem?_eq_getElem (by omega)⟩
                have hto := hiv5.2.1.2.2.1 t (List.mem_of_getElem? ht)
                obtain ⟨ht1, ht2, ht3⟩ := hto
                have hto : co_ok t := ⟨ht1, ht2, ht3⟩
                refine gx_iload C 0 dd_Mo_compose_119 (kk := ?_)
                refine gx_aload_n C 1 dd_Mo_compose_121 (kk := ?_)
                refine mo_get C fd_Mo_103 dd_Mo_compose_122 (kk := ?_)
                refine gx_topi _ hiv5.2.1.1 ?_
                refine gx_icmp_ge C 216 dd_Mo_compose_125 (fun h125 => absurd h125 (nI_ge (by omega) (by omega))) (fun h125 => ?_)
                refine gx_aload_n C 1 dd_Mo_compose_128 (kk := ?_)
                refine mo_get C fd_Mo_20 dd_Mo_compose_129 (kk := ?_)
                refine gx_bipush (v := nI 16) C dd_Mo_compose_132 (kk := ?_)
                refine gx_iload_n C 2 dd_Mo_compose_134 (kk := ?_)
                refine gx_imul C dd_Mo_compose_135 (kk := ?_)
                refine gx_topi _ (pk_mul _ _) ?_
                refine gx_aload_n C 1 dd_Mo_compose_136 (kk := ?_)
                refine mo_get C fd_Mo_69 dd_Mo_compose_137 (kk := ?_)
                refine gx_iload C 0 dd_Mo_compose_140 (kk := ?_)
                refine mo_l63 C dd_Mo_compose_142 (by omega) (kk := ?_)
                refine gx_topi (nI (mc_cd t)) (by rw [hF115, gm_un (by decide)]; exact hiv5.2.1.2.1 k5 t ht) ?_
                refine gx_bipush (v := nI 16) C dd_Mo_compose_143 (kk := ?_)
                refine gx_irem C dd_Mo_compose_145 (kk := ?_)
                refine gx_topi (nI t.1) (mc_p hto) ?_
                refine gx_iadd C dd_Mo_compose_146 (kk := ?_)
                refine gx_topi _ (nI_add _ _) ?_
                refine mo_l47 C dd_Mo_compose_147 (by omega) (kk := ?_)
                refine gx_topl _ ((mo_w_is hw1 hi4 (hM i hi4)).2.2.1 t.1 (by omega)) ?_
                refine gx_lstore C _ dd_Mo_compose_148 (kk := ?_)
                refine gx_aload_n C 2 dd_Mo_compose_150 (kk := ?_)
                refine mo_get C fd_Mo_20 dd_Mo_compose_151 (kk := ?_)
                refine gx_bipush (v := nI 16) C dd_Mo_compose_154 (kk := ?_)
                refine gx_iload_n C 4 dd_Mo_compose_156 (kk := ?_)
                refine gx_imul C dd_Mo_compose_157 (kk := ?_)
                refine gx_topi _ (pk_mul _ _) ?_
                refine gx_aload_n C 2 dd_Mo_compose_158 (kk := ?_)
                refine mo_get C fd_Mo_69 dd_Mo_compose_159 (kk := ?_)
                refine gx_iload C 1 dd_Mo_compose_162 (kk := ?_)
                refine mo_l63 C dd_Mo_compose_164 (by omega) (kk := ?_)
                refine gx_topi (nI (mc_cd t)) (by rw [hF115, gm_un (by decide)]; exact hiv5.2.1.2.1 k5 t ht) ?_
                refine gx_bipush (v := nI 16) C dd_Mo_compose_165 (kk := ?_)
                refine gx_idiv C dd_Mo_compose_167 (kk := ?_)
                refine gx_topi _ (mc_q1 hto) ?_
                refine gx_bipush (v := nI 16) C dd_Mo_compose_168 (kk := ?_)
                refine gx_irem C dd_Mo_compose_170 (kk := ?_)
                refine gx_topi (nI t.2.1) (mc_q2 hto) ?_
                refine gx_iadd C dd_Mo_compose_171 (kk := ?_)
                refine gx_topi _ (nI_add _ _) ?_
                refine mo_l47 C dd_Mo_compose_172 (by omega) (kk := ?_)
                refine gx_topl _ ((mo_w_is hw1 hj4 (hM j hj4)).2.2.1 t.2.1 (by omega)) ?_
                refine gx_lstore C _ dd_Mo_compose_173 (kk := ?_)
                refine gx_aload_n C 3 dd_Mo_compose_175 (kk := ?_)
                refine mo_get C fd_Mo_20 dd_Mo_compose_176 (kk := ?_)
                refine gx_bipush (v := nI 64) C dd_Mo_compose_179 (kk := ?_)
                refine gx_iload C 2 dd_Mo_compose_181 (kk := ?_)
                refine gx_iadd C dd_Mo_compose_183 (kk := ?_)
                refine gx_topi _ (nI_add _ _) ?_
                rcases hex : am_en (σ.1 i) t.1 with _ | ea
                · refine gx_lload C 1 dd_Mo_compose_184 (kk := ?_)
                  refine gx_lconst (v := lN 0) C dd_Mo_compose_186 (kk := ?_)
                  refine gx_lcmp C dd_Mo_compose_187 (kk := ?_)
                  refine gx_if_lt C 198 dd_Mo_compose_188 (fun h188 => ?_) (fun h188 => absurd (by decide) h188)
                  refine gx_ldc2 C dd_Mo_compose_198 kc_Mo_79 (kk := ?_)
                  refine gx_goto C 209 dd_Mo_compose_201 (kk := ?_)
                  refine mo_s47 C dd_Mo_compose_209 (by omega) (kk := fun L209 hL209 => ?_)
                  refine gx_iinc C 2 (nI (k5 + 1)) _ dd_Mo_compose_210 (nI_1 _) (kk := ?_)
                  refine gx_goto C 119 dd_Mo_compose_213 (kk := ?_)
                  refine gx_loc [0, 3, 4, 5, 6] ?_
                  have hoa : co_oa (am_en (σ.1 i) t.1) (am_en (σ.1 j) t.2.1) = none := by
                    rw [hex]
                    rfl
                  refine ih (k5 + 1) L209 (by omega) ?_ (mo_w_tr hw1 (mo_w_fr (mo_fr_47 (s := 4) (q := k5) (by omega) hL209)))
                  have hM6 := mo_is_en (s := 4) (q := k5) (o := none) hL209 rfl hM5
                  rw [← hoa] at hM6
                  have hes := co_es_s (a := σ.1 i) (b := σ.1 j) (X := []) ht
                  rw [List.append_nil] at hes
                  rw [← hes]
                  exact hM6
                · have hea := hok.1.2.2.2.1 _ _ hex
                  refine gx_lload C 1 dd_Mo_compose_184 (kk := ?_)
                  refine gx_lconst (v := lN 0) C dd_Mo_compose_186 (kk := ?_)
                  refine gx_lcmp C dd_Mo_compose_187 (kk := ?_)
                  refine gx_if_lt C 198 dd_Mo_compose_188 (fun h188 => absurd (lc_lt.mp h188) (by show ¬ lN ea < lN 0; rw [pk_lLT (by omega) (by decide)]; omega)) (fun h188 => ?_)
                  rcases hey : am_en (σ.1 j) t.2.1 with _ | eb
                  · refine gx_lload C 0 dd_Mo_compose_191 (kk := ?_)
                    refine gx_lconst (v := lN 0) C dd_Mo_compose_193 (kk := ?_)
                    refine gx_lcmp C dd_Mo_compose_194 (kk := ?_)
                    refine gx_if_ge C 204 dd_Mo_compose_195 (fun h195 => absurd h195 (by decide)) (fun h195 => ?_)
                    refine gx_ldc2 C dd_Mo_compose_198 kc_Mo_79 (kk := ?_)
                    refine gx_goto C 209 dd_Mo_compose_201 (kk := ?_)
                    refine mo_s47 C dd_Mo_compose_209 (by omega) (kk := fun L209 hL209 => ?_)
                    refine gx_iinc C 2 (nI (k5 + 1)) _ dd_Mo_compose_210 (nI_1 _) (kk := ?_)
                    refine gx_goto C 119 dd_Mo_compose_213 (kk := ?_)
                    refine gx_loc [0, 3, 4, 5, 6] ?_
                    have hoa : co_oa (am_en (σ.1 i) t.1) (am_en (σ.1 j) t.2.1) = none := by
                      rw [hex, hey]
                      rfl
                    refine ih (k5 + 1) L209 (by omega) ?_ (mo_w_tr hw1 (mo_w_fr (mo_fr_47 (s := 4) (q := k5) (by omega) hL209)))
                    have hM6 := mo_is_en (s := 4) (q := k5) (o := none) hL209 rfl hM5
                    rw [← hoa] at hM6
                    have hes := co_es_s (a := σ.1 i) (b := σ.1 j) (X := []) ht
                    rw [List.append_nil] at hes
                    rw [← hes]
                    exact hM6
                  · have heb := hok2.1.2.2.2.1 _ _ hey
                    refine gx_lload C 0 dd_Mo_compose_191 (kk := ?_)
                    refine gx_lconst (v := lN 0) C dd_Mo_compose_193 (kk := ?_)
                    refine gx_lcmp C dd_Mo_compose_194 (kk := ?_)
                    refine gx_if_ge C 204 dd_Mo_compose_195 (fun h195 => ?_) (fun h195 => absurd (lc_ge.mpr (by show lN 0 ≤ lN eb; rw [pk_lLE (by decide) (by omega)]; omega)) h195)
                    refine gx_lload C 1 dd_Mo_compose_204 (kk := ?_)
                    refine gx_lload C 0 dd_Mo_compose_206 (kk := ?_)
                    refine gx_ladd C dd_Mo_compose_208 (kk := ?_)
                    refine gx_topl _ (lN_add _ _) ?_
                    refine mo_s47 C dd_Mo_compose_209 (by omega) (kk := fun L209 hL209 => ?_)
                    refine gx_iinc C 2 (nI (k5 + 1)) _ dd_Mo_compose_210 (nI_1 _) (kk := ?_)
                    refine gx_goto C 119 dd_Mo_compose_213 (kk := ?_)
                    refine gx_loc [0, 3, 4, 5, 6] ?_
                    have hoa : co_oa (am_en (σ.1 i) t.1) (am_en (σ.1 j) t.2.1) = (some (ea + eb)) := by
                      rw [hex, hey]
                      rfl
                    refine ih (k5 + 1) L209 (by omega) ?_ (mo_w_tr hw1 (mo_w_fr (mo_fr_47 (s := 4) (q := k5) (by omega) hL209)))
                    have hM6 := mo_is_en (s := 4) (q := k5) (o := (some (ea + eb))) hL209 rfl hM5
                    rw [← hoa] at hM6
                    have hes := co_es_s (a := σ.1 i) (b := σ.1 j) (X := []) ht
                    rw [List.append_nil] at hes
                    rw [← hes]
                    exact hM6
            exact loop (([], []) : co_S).1.length 0 L5 (by omega) (by rw [co_es_0]; exact mo_is_n hF115 hiv5.1) (mo_w_tr hw5 (mo_w_fr (mo_fr_44 hF115)))
        · have hsqA := (mo_w_is (mo_w_fr hf4) hi4 (hM i hi4)).2.1
          rw [hsa] at hsqA
          have hxa := hok.1.2.2.2.2 xa hsa
          refine gx_aload_n C 0 dd_Mo_compose_34 (kk := ?_)
          refine mo_get C fd_Mo_13 dd_Mo_compose_35 (kk := ?_)
          refine gx_iload_n C 1 dd_Mo_compose_38 (kk := ?_)
          refine mo_l45 C dd_Mo_compose_39 (by omega) (kk := ?_)
          refine gx_topi _ hsqA.1 ?_
          refine gx_if_lt C 94 dd_Mo_compose_40 (fun h40 => absurd h40 (nI_pos (by omega))) (fun h40 => ?_)
          rcases hsb : am_st (σ.1 j) with _ | xb
          · have hsqB := (mo_w_is (mo_w_fr hf4) hj4 (hM j hj4)).2.1
            rw [hsb] at hsqB
            refine gx_aload_n C 0 dd_Mo_compose_43 (kk := ?_)
            refine mo_get C fd_Mo_13 dd_Mo_compose_44 (kk := ?_)
            refine gx_iload_n C 2 dd_Mo_compose_47 (kk := ?_)
            refine mo_l45 C dd_Mo_compose_48 (by omega) (kk := ?_)
            refine gx_topi _ hsqB.1 ?_
            refine gx_if_lt C 94 dd_Mo_compose_49 (fun h49 => ?_) (fun h49 => absurd (by decide) h49)
            have hw9 : mo_w F L F2 L2 := mo_w_fr hf4
            have hiv9 : mc_iv F2 L2 S31 none ([], []) := ⟨hM4, ⟨by rw [hS31, gm_us]; rfl, fun k u hu => absurd hu (by simp), fun u hu => absurd hu List.not_mem_nil, Nat.zero_le _⟩, List.Pairwise.nil, fun x hx => absurd hx List.not_mem_nil⟩
            have hS9 : ∀ k, k ≠ 27 → S31 k = S k := fun k hk => by rw [hS31, gm_un hk]
            refine gx_aload_n C 0 dd_Mo_compose_94 (kk := ?_)
            refine gx_iload_n C 1 dd_Mo_compose_95 (kk := ?_)
            refine gx_iload_n C 2 dd_Mo_compose_96 (kk := ?_)
            refine gx_callV C (ct_Mo_explore (gx_l K) D dA ad h F2 L2 S31 hi4 hj4 (mo_w_is hw9 hi4 (hM i hi4)) (mo_w_is hw9 hj4 (hM j hj4)) hok.1.2.2.1 hok2.1.2.2.1 hiv9) me_Mo_explore ml_Mo_123 mn_Mo_explore _ (gx_w_at (by decide) mo_h_43) rfl dd_Mo_compose_97 (kk := fun v w hq => ?_)
            obtain ⟨F5, L5, S5, rfl, hwa, hSa, hra⟩ := hq
            have hw5 := mo_w_tr hw9 hwa
            have hS5 := mo_s_r hS9 hSa
            have hx : co_ex (am_ar (σ.1 i)) (am_ar (σ.1 j)) 16 0 ([], []) = some ([], []) := mc_exn (Nat.le_refl _)
            rw [hx] at hra
            obtain ⟨rfl, hiv5⟩ := hra
            have hl16 := hiv5.2.1.2.2.2
            · refine gx_if_ne C 106 dd_Mo_compose_100 (fun h100 => ?_) (fun h100 => absurd h100 (by decide))
              refine gx_aload_n C 0 dd_Mo_compose_106 (kk := ?_)
              refine mo_get C fd_Mo_7 dd_Mo_compose_107 (kk := ?_)
              refine gx_iconst (v := nI 4) C dd_Mo_compose_110 (kk := ?_)
              refine gx_aload_n C 0 dd_Mo_compose_111 (kk := ?_)
              refine mo_get C fd_Mo_103 dd_Mo_compose_112 (kk := ?_)
              refine gx_topi _ hiv5.2.1.1 ?_
              refine mo_s44 C dd_Mo_compose_115 (by omega) (kk := fun F115 hF115 => ?_)
              refine gx_iconst (v := nI 0) C dd_Mo_compose_116 (kk := ?_)
              refine gx_istore C _ dd_Mo_compose_117 (kk := ?_)
              have loop : ∀ m k5 L1, k5 + m = (([], []) : co_S).1.length → mo_is F115 L1 4 ((([], []) : co_S).1.length, none, co_es (σ.1 i) (σ.1 j) (([], []) : co_S).1 k5, (([], []) : co_S).2) → mo_w F L F115 L1 → gx_G K D 9 0 0 119 [(4, .int (nI k5)), (0, .ref (ad 43)), (1, .int (nI i)), (2, .int (nI j)), (3, .int (nI k))] [] (gx_w ad (mo_h dA ad h F115 L1 S5)) (gx_Z K D dA 0 0 (fun v w => ∃ F2 L2 S2, w = (gx_w ad (mo_h dA ad h F2 L2 S2)) ∧ rs F2 L2 S2 (o_compose σ (nI i) (nI j) (nI k)).2 ∧ v = some (.int (o_compose σ (nI i) (nI j) (nI k)).1))) := by
                intro m
                induction m with
                | zero =>
                  intro k5 L1 hk5 hM5 hw1
                  refine gx_iload C 0 dd_Mo_compose_119 (kk := ?_)
                  refine gx_aload_n C 1 dd_Mo_compose_121 (kk := ?_)
                  refine mo_get C fd_Mo_103 dd_Mo_compose_122 (kk := ?_)
                  refine gx_topi _ hiv5.2.1.1 ?_
                  refine gx_icmp_ge C 216 dd_Mo_compose_125 (fun h125 => ?_) (fun h125 => absurd (nI_le (a := (([], []) : co_S).1.length) (b := k5) (by omega) (by omega)) h125)
                  refine gx_aload_n C 1 dd_Mo_compose_216 (kk := ?_)
                  refine gx_iload_n C 4 dd_Mo_compose_217 (kk := ?_)
                  refine gx_callV C (ct_Mo_keep (gx_l K) D dA ad h F115 L1 S5 (c := k) (B := 4000000000) (b := ((([], []) : co_S).1.length, none, co_es (σ.1 i) (σ.1 j) (([], []) : co_S).1 (([], []) : co_S).1.length, (([], []) : co_S).2)) (by omega) (by rw [show k5 = (([], []) : co_S).1.length by omega] at hM5; exact hM5) hl16 (by decide) (fun x hx => (hiv5.2.2.2 x hx).2) (mc_esb hok.1.2.2.2.1 hok2.1.2.2.2.1 (([], []) : co_S).1 (([], []) : co_S).1.length) (fun x hx => by cases hx)) me_Mo_keep ml_Mo_126 mn_Mo_keep _ (gx_w_at (by decide) mo_h_43) rfl dd_Mo_compose_218 (kk := fun v w hq => ?_)
                  rcases hq with ⟨hfit, rfl, F7, L7, rfl, hM7, hf7⟩ | ⟨hfit, rfl, rfl⟩
                  · refine gx_if_eq C 231 dd_Mo_compose_221 (fun h221 => absurd h221 (by decide)) (fun h221 => ?_)
                    refine gx_aload_n C 1 dd_Mo_compose_224 (kk := ?_)
                    refine mo_get C fd_Mo_103 dd_Mo_compose_225 (kk := ?_)
                    refine gx_topi _ hiv5.2.1.1 ?_
                    refine gx_goto C 233 dd_Mo_compose_228 (kk := ?_)
                    refine gx_iret C dd_Mo_compose_233 ?_
                    have hmk : co_mk (σ.1 i) (σ.1 j) = some ((([], []) : co_S).1.length, none, co_es (σ.1 i) (σ.1 j) (([], []) : co_S).1 (([], []) : co_S).1.length, (([], []) : co_S).2) := by
                      show _ = some (0, none, co_es (σ.1 i) (σ.1 j) [] 0, [])
                      rw [co_es_0]
                      unfold co_mk
                      rw [hsa, hsb]
                    have hsp : o_compose σ (nI i) (nI j) (nI k) = (nI (([], []) : co_S).1.length, o_set σ k ((([], []) : co_S).1.length, none, co_es (σ.1 i) (σ.1 j) (([], []) : co_S).1 (([], []) : co_S).1.length, (([], []) : co_S).2)) := by
                      unfold o_compose
                      simp only [hi, hj, hk]
                      rw [hmk]
                      exact o_keep_y hfit
                    rw [hsp]
                    exact ⟨F7, L7, _, rfl, rs_set hf7 hM7 (mo_w_rs hw1 (hS5 10 (by decide)) (hS5 14 (by decide)) hr), rfl⟩
                  · refine gx_if_eq C 231 dd_Mo_compose_221 (fun h221 => ?_) (fun h221 => absurd rfl h221)
                    refine gx_bipush (v := -2) C dd_Mo_compose_231 (kk := ?_)
                    refine gx_iret C dd_Mo_compose_233 ?_
                    have hmk : co_mk (σ.1 i) (σ.1 j) = some ((([], []) : co_S).1.length, none, co_es (σ.1 i) (σ.1 j) (([], []) : co_S).1 (([], []) : co_S).1.length, (([], []) : co_S).2) := by
                      show _ = some (0, none, co_es (σ.1 i) (σ.1 j) [] 0, [])
                      rw [co_es_0]
                      unfold co_mk
                      rw [hsa, hsb]
                    have hsp : o_compose σ (nI i) (nI j) (nI k) = (-2, σ) := by
                      unfold o_compose
                      simp only [hi, hj, hk]
                      rw [hmk]
                      exact o_keep_n hfit
                    rw [hsp]
                    exact ⟨_, _, _, rfl, mo_w_rs hw1 (hS5 10 (by decide)) (hS5 14 (by decide)) hr, rfl⟩
                | succ m ih =>
                  intro k5 L1 hk5 hM5 hw1
                  obtain ⟨t, ht⟩ : ∃ t, (([], []) : co_S).1[k5]? = some t := ⟨_, List.getElem?_eq_getElem (by omega)⟩
                  have hto := hiv5.2.1.2.2.1 t (List.mem_of_getElem? ht)
                  obtain ⟨ht1, ht2, ht3⟩ := hto
                  have hto : co_ok t := ⟨ht1, ht2, ht3⟩
                  refine gx_iload C 0 dd_Mo_compose_119 (kk := ?_)
                  refine gx_aload_n C 1 dd_Mo_compose_121 (kk := ?_)
                  refine mo_get C fd_Mo_103 dd_Mo_compose_122 (kk := ?_)
                  refine gx_topi _ hiv5.2.1.1 ?_
                  refine gx_icmp_ge C 216 dd_Mo_compose_125 (fun h125 => absurd h125 (nI_ge (by omega) (by omega))) (fun h125 => ?_)
                  refine gx_aload_n C 1 dd_Mo_compose_128 (kk := ?_)
                  refine mo_get C fd_Mo_20 dd_Mo_compose_129 (kk := ?_)
                  refine gx_bipush (v := nI 16) C dd_Mo_compose_132 (kk := ?_)
                  refine gx_iload_n C 2 dd_Mo_compose_134 (kk := ?_)
                  refine gx_imul C dd_Mo_compose_135 (kk := ?_)
                  refine gx_topi _ (pk_mul _ _) ?_
                  refine gx_aload_n C 1 dd_Mo_compose_136 (kk := ?_)
                  refine mo_get C fd_Mo_69 dd_Mo_compose_137 (kk := ?_)
                  refine gx_iload C 0 dd_Mo_compose_140 (kk := ?_)
                  refine mo_l63 C dd_Mo_compose_142 (by omega) (kk := ?_)
                  refine gx_topi (nI (mc_cd t)) (by rw [hF115, gm_un (by decide)]; exact hiv5.2.1.2.1 k5 t ht) ?_
                  refine gx_bipush (v := nI 16) C dd_Mo_compose_143 (kk := ?_)
                  refine gx_irem C dd_Mo_compose_145 (kk := ?_)
                  refine gx_topi (nI t.1) (mc_p hto) ?_
                  refine gx_iadd C dd_Mo_compose_146 (kk := ?_)
                  refine gx_topi _ (nI_add _ _) ?_
                  refine mo_l47 C dd_Mo_compose_147 (by omega) (kk := ?_)
                  refine gx_topl _ ((mo_w_is hw1 hi4 (hM i hi4)).2.2.1 t.1 (by omega)) ?_
                  refine gx_lstore C _ dd_Mo_compose_148 (kk := ?_)
                  refine gx_aload_n C 2 dd_Mo_compose_150 (kk := ?_)
                  refine mo_get C fd_Mo_20 dd_Mo_compose_151 (kk := ?_)
                  refine gx_bipush (v := nI 16) C dd_Mo_compose_154 (kk := ?_)
                  refine gx_iload_n C 4 dd_Mo_compose_156 (kk := ?_)
                  refine gx_imul C dd_Mo_compose_157 (kk := ?_)
                  refine gx_topi _ (pk_mul _ _) ?_
                  refine gx_aload_n C 2 dd_Mo_compose_158 (kk := ?_)
                  refine mo_get C fd_Mo_69 dd_Mo_compose_159 (kk := ?_)
                  refine gx_iload C 1 dd_Mo_compose_162 (kk := ?_)
                  refine mo_l63 C dd_Mo_compose_164 (by omega) (kk := ?_)
                  refine gx_topi (nI (mc_cd t)) (by rw [hF115, gm_un (by decide)]; exact hiv5.2.1.2.1 k5 t ht) ?_
                  refine gx_bipush (v := nI 16) C dd_Mo_compose_165 (kk := ?_)
                  refine gx_idiv C dd_Mo_compose_167 (kk := ?_)
                  refine gx_topi _ (mc_q1 hto) ?_
                  refine gx_bipush (v := nI 16) C dd_Mo_compose_168 (kk := ?_)
                  refine gx_irem C dd_Mo_compose_170 (kk := ?_)
                  refine gx_topi (nI t.2.1) (mc_q2 hto) ?_
                  refine gx_iadd C dd_Mo_compose_171 (kk := ?_)
                  refine gx_topi _ (nI_add _ _) ?_
                  refine mo_l47 C dd_Mo_compose_172 (by omega) (kk := ?_)
                  refine gx_topl _ ((mo_w_is hw1 hj4 (hM j hj4)).2.2.1 t.2.1 (by omega)) ?_
                  refine gx_lstore C _ dd_Mo_compose_173 (kk := ?_)
                  refine gx_aload_n C 3 dd_Mo_compose_175 (kk := ?_)
                  refine mo_get C fd_Mo_20 dd_Mo_compose_176 (kk := ?_)
                  refine gx_bipush (v := nI 64) C dd_Mo_compose_179 (kk := ?_)
                  refine gx_iload C 2 dd_Mo_compose_181 (kk := ?_)
                  refine gx_iadd C dd_Mo_compose_183 (kk := ?_)
                  refine gx_topi _ (nI_add _ _) ?_
                  rcases hex : am_en (σ.1 i) t.1 with _ | ea
                  · refine gx_lload C 1 dd_Mo_compose_184 (kk := ?_)
                    refine gx_lconst (v := lN 0) C dd_Mo_compose_186 (kk := ?_)
                    refine gx_lcmp C dd_Mo_compose_187 (kk := ?_)
                    refine gx_if_lt C 198 dd_Mo_compose_188 (fun h188 => ?_) (fun h188 => absurd (by decide) h188)
                    refine gx_ldc2 C dd_Mo_compose_198 kc_Mo_79 (kk := ?_)
                    refine gx_goto C 209 dd_Mo_compose_201 (kk := ?_)
                    refine mo_s47 C dd_Mo_compose_209 (by omega) (kk := fun L209 hL209 => ?_)
                    refine gx_iinc C 2 (nI (k5 + 1)) _ dd_Mo_compose_210 (nI_1 _) (kk := ?_)
                    refine gx_goto C 119 dd_Mo_compose_213 (kk := ?_)
                    refine gx_loc [0, 3, 4, 5, 6] ?_
                    have hoa : co_oa (am_en (σ.1 i) t.1) (am_en (σ.1 j) t.2.1) = none := by
                      rw [hex]
                      rfl
                    refine ih (k5 + 1) L209 (by omega) ?_ (mo_w_tr hw1 (mo_w_fr (mo_fr_47 (s := 4) (q := k5) (by omega) hL209)))
                    have hM6 := mo_is_en (s := 4) (q := k5) (o := none) hL209 rfl hM5
                    rw [← hoa] at hM6
                    have hes := co_es_s (a := σ.1 i) (b := σ.1 j) (X := []) ht
                    rw [List.append_nil] at hes
                    rw [← hes]
                    exact hM6
                  · have hea := hok.1.2.2.2.1 _ _ hex
                    refine gx_lload C 1 dd_Mo_compose_184 (kk := ?_)
                    refine gx_lconst (v := lN 0) C dd_Mo_compose_186 (kk := ?_)
                    refine gx_lcmp C dd_Mo_compose_187 (kk := ?_)
                    refine gx_if_lt C 198 dd_Mo_compose_188 (fun h188 => absurd (lc_lt.mp h188) (by show ¬ lN ea < lN 0; rw [pk_lLT (by omega) (by decide)]; omega)) (fun h188 => ?_)
                    rcases hey : am_en (σ.1 j) t.2.1 with _ | eb
                    · refine gx_lload C 0 dd_Mo_compose_191 (kk := ?_)
                      refine gx_lconst (v := lN 0) C dd_Mo_compose_193 (kk := ?_)
                      refine gx_lcmp C dd_Mo_compose_194 (kk := ?_)
                      refine gx_if_ge C 204 dd_Mo_compose_195 (fun h195 => absurd h195 (by decide)) (fun h195 => ?_)
                      refine gx_ldc2 C dd_Mo_compose_198 kc_Mo_79 (kk := ?_)
                      refine gx_goto C 209 dd_Mo_compose_201 (kk := ?_)
                      refine mo_s47 C dd_Mo_compose_209 (by omega) (kk := fun L209 hL209 => ?_)
                      refine gx_iinc C 2 (nI (k5 + 1)) _ dd_Mo_compose_210 (nI_1 _) (kk := ?_)
                      refine gx_goto C 119 dd_Mo_compose_213 (kk := ?_)
                      refine gx_loc [0, 3, 4, 5, 6] ?_
                      have hoa : co_oa (am_en (σ.1 i) t.1) (am_en (σ.1 j) t.2.1) = none := by
                        rw [hex, hey]
                        rfl
                      refine ih (k5 + 1) L209 (by omega) ?_ (mo_w_tr hw1 (mo_w_fr (mo_fr_47 (s := 4) (q := k5) (by omega) hL209)))
                      have hM6 := mo_is_en (s := 4) (q := k5) (o := none) hL209 rfl hM5
                      rw [← hoa] at hM6
                      have hes := co_es_s (a := σ.1 i) (b := σ.1 j) (X := []) ht
                      rw [List.append_nil] at hes
                      rw [← hes]
                      exact hM6
                    · have heb := hok2.1.2.2.2.1 _ _ hey
                      refine gx_lload C 0 dd_Mo_compose_191 (kk := ?_)
                      refine gx_lconst (v := lN 0) C dd_Mo_compose_193 (kk := ?_)
                      refine gx_lcmp C dd_Mo_compose_194 (kk := ?_)
                      refine gx_if_ge C 204 dd_Mo_compose_195 (fun h195 => ?_) (fun h195 => absurd (lc_ge.mpr (by show lN 0 ≤ lN eb; rw [pk_lLE (by decide) (by omega)]; omega)) h195)
                      refine gx_lload C 1 dd_Mo_compose_204 (kk := ?_)
                      refine gx_lload C 0 dd_Mo_compose_206 (kk := ?_)
                      refine gx_ladd C dd_Mo_compose_208 (kk := ?_)
                      refine gx_topl _ (lN_add _ _) ?_
                      refine mo_s47 C dd_Mo_compose_209 (by omega) (kk := fun L209 hL209 => ?_)
                      refine gx_iinc C 2 (nI (k5 + 1)) _ dd_Mo_compose_210 (nI_1 _) (kk := ?_)
                      refine gx_goto C 119 dd_Mo_compose_213 (kk := ?_)
                      refine gx_loc [0, 3, 4, 5, 6] ?_
                      have hoa : co_oa (am_en (σ.1 i) t.1) (am_en (σ.1 j) t.2.1) = (some (ea + eb)) := by
                        rw [hex, hey]
                        rfl
                      refine ih (k5 + 1) L209 (by omega) ?_ (mo_w_tr hw1 (mo_w_fr (mo_fr_47 (s := 4) (q := k5) (by omega) hL209)))
                      have hM6 := mo_is_en (s := 4) (q := k5) (o := (some (ea + eb))) hL209 rfl hM5
                      rw [← hoa] at hM6
                      have hes := co_es_s (a := σ.1 i) (b := σ.1 j) (X := []) ht
                      rw [List.append_nil] at hes
                      rw [← hes]
                      exact hM6
              exact loop (([], []) : co_S).1.length 0 L5 (by omega) (by rw [co_es_0]; exact mo_is_n hF115 hiv5.1) (mo_w_tr hw5 (mo_w_fr (mo_fr_44 hF115)))
          · have hsqB := (mo_w_is (mo_w_fr hf4) hj4 (hM j hj4)).2.1
            rw [hsb] at hsqB
            have hxb := hok2.1.2.2.2.2 xb hsb
            refine gx_aload_n C 0 dd_Mo_compose_43 (kk := ?_)
            refine mo_get C fd_Mo_13 dd_Mo_compose_44 (kk := ?_)
            refine gx_iload_n C 2 dd_Mo_compose_47 (kk := ?_)
            refine mo_l45 C dd_Mo_compose_48 (by omega) (kk := ?_)
            refine gx_topi _ hsqB.1 ?_
            refine gx_if_lt C 94 dd_Mo_compose_49 (fun h49 => absurd h49 (nI_pos (by omega))) (fun h49 => ?_)
            refine gx_aload_n C 0 dd_Mo_compose_52 (kk := ?_)
            refine mo_get C fd_Mo_13 dd_Mo_compose_53 (kk := ?_)
            refine gx_iconst (v := nI 4) C dd_Mo_compose_56 (kk := ?_)
            refine gx_aload_n C 0 dd_Mo_compose_57 (kk := ?_)
            refine gx_aload_n C 0 dd_Mo_compose_58 (kk := ?_)
            refine mo_get C fd_Mo_13 dd_Mo_compose_59 (kk := ?_)
            refine gx_iload_n C 1 dd_Mo_compose_62 (kk := ?_)
            refine mo_l45 C dd_Mo_compose_63 (by omega) (kk := ?_)
            refine gx_topi _ hsqA.1 ?_
            refine gx_aload_n C 0 dd_Mo_compose_64 (kk := ?_)
            refine mo_get C fd_Mo_13 dd_Mo_compose_65 (kk := ?_)
            refine gx_iload_n C 2 dd_Mo_compose_68 (kk := ?_)
            refine mo_l45 C dd_Mo_compose_69 (by omega) (kk := ?_)
            refine gx_topi _ hsqB.1 ?_
            refine gx_iconst (v := nI 0) C dd_Mo_compose_70 (kk := ?_)
            refine gx_callV C (ct_Mo_reach (gx_l K) D dA ad h F2 L2 S31 (T := []) (t := (xa.1, xb.1, 0)) ⟨by rw [hS31, gm_us]; rfl, fun k u hu => absurd hu (by simp), fun u hu => absurd hu List.not_mem_nil, Nat.zero_le _⟩ ⟨hxa.1, hxb.1, by show (0 : Nat) < 3; decide⟩) me_Mo_reach ml_Mo_107 mn_Mo_reach _ (gx_w_at (by decide) mo_h_43) rfl dd_Mo_compose_71 (kk := fun v w hq => ?_)
            obtain ⟨y, hy, rfl, F3, S3, rfl, hmt3, hy16, hF3, hS3⟩ := hq.resolve_right (fun e => by
              have e2 : some (0, [(xa.1, xb.1, 0)]) = (none : Option (Nat × List co_t)) := e.1
              cases e2)
            have hy2 : some (0, [(xa.1, xb.1, 0)]) = some y := hy
            cases hy2
            refine mo_s45 C dd_Mo_compose_74 (by omega) (kk := fun F74 hF74 => ?_)
            refine gx_aload_n C 0 dd_Mo_compose_75 (kk := ?_)
            refine mo_get C fd_Mo_16 dd_Mo_compose_76 (kk := ?_)
            refine gx_iconst (v := nI 4) C dd_Mo_compose_79 (kk := ?_)
            refine gx_aload_n C 0 dd_Mo_compose_80 (kk := ?_)
            refine mo_get C fd_Mo_16 dd_Mo_compose_81 (kk := ?_)
            refine gx_iload_n C 1 dd_Mo_compose_84 (kk := ?_)
            refine mo_l46 C dd_Mo_compose_85 (by omega) (kk := ?_)
            refine gx_topl _ hsqA.2 ?_
            refine gx_aload_n C 0 dd_Mo_compose_86 (kk := ?_)
            refine mo_get C fd_Mo_16 dd_Mo_compose_87 (kk := ?_)
            refine gx_iload_n C 2 dd_Mo_compose_90 (kk := ?_)
            refine mo_l46 C dd_Mo_compose_91 (by omega) (kk := ?_)
            refine gx_topl _ hsqB.2 ?_
            refine gx_ladd C dd_Mo_compose_92 (kk := ?_)
            refine gx_topl _ (lN_add _ _) ?_
            refine mo_s46 C dd_Mo_compose_93 (by omega) (kk := fun L93 hL93 => ?_)
            have hw9 : mo_w F L F74 L93 := mo_w_tr (mo_w_fr hf4) (mo_w_tr (mo_w_k (fun k hk => hF3 k (by omega)) (fun _ _ => rfl)) (mo_w_fr (mo_fr_tr (mo_fr_45 hF74) (mo_fr_46 hL93))))
            have hiv9 : mc_iv F74 L93 S3 (some (0, xa.2 + xb.2)) ([(xa.1, xb.1, 0)], []) := by
              refine ⟨mo_is_st hF74 hL93 rfl (mo_is_k (fun k hk => hF3 k (by omega)) (fun _ _ => rfl) hM4), ?_, List.Pairwise.nil, fun x hx => absurd hx List.not_mem_nil⟩
              unfold mt
              rw [hF74, gm_un (by decide)]
              exact hmt3
            have hS9 : ∀ k, k ≠ 27 → S3 k = S k := fun k hk => (hS3 k hk).trans (by rw [hS31, gm_un hk])
            refine gx_aload_n C 0 dd_Mo_compose_94 (kk := ?_)
            refine gx_iload_n C 1 dd_Mo_compose_95 (kk := ?_)
            refine gx_iload_n C 2 dd_Mo_compose_96 (kk := ?_)
            refine gx_callV C (ct_Mo_explore (gx_l K) D dA ad h F74 L93 S3 hi4 hj4 (mo_w_is hw9 hi4 (hM i hi4)) (mo_w_is hw9 hj4 (hM j hj4)) hok.1.2.2.1 hok2.1.2.2.1 hiv9) me_Mo_explore ml_Mo_123 mn_Mo_explore _ (gx_w_at (by decide) mo_h_43) rfl dd_Mo_compose_97 (kk := fun v w hq => ?_)
            obtain ⟨F5, L5, S5, rfl, hwa, hSa, hra⟩ := hq
            have hw5 := mo_w_tr hw9 hwa
            have hS5 := mo_s_r hS9 hSa
            rcases hx : co_ex (am_ar (σ.1 i)) (am_ar (σ.1 j)) 16 0 ([(xa.1, xb.1, 0)], []) with _ | c5
            · rw [hx] at hra
              obtain rfl : v = _ := hra
              refine gx_if_ne C 106 dd_Mo_compose_100 (fun h100 => absurd rfl h100) (fun h100 => ?_)
              refine gx_bipush (v := -2) C dd_Mo_compose_103 (kk := ?_)
              refine gx_iret C dd_Mo_compose_105 ?_
              have hmk : co_mk (σ.1 i) (σ.1 j) = none := by
                unfold co_mk
                simp only [hsa, hsb, hx]
              have hsp : o_compose σ (nI i) (nI j) (nI k) = (-2, σ) := by
                unfold o_compose
                simp only [hi, hj, hk, hmk]
                rfl
              rw [hsp]
              exact ⟨_, _, _, rfl, mo_w_rs hw5 (hS5 10 (by decide)) (hS5 14 (by decide)) hr, rfl⟩
            · rw [hx] at hra
              obtain ⟨rfl, hiv5⟩ := hra
              have hl16 := hiv5.2.1.2.2.2
              refine gx_if_ne C 106 dd_Mo_compose_100 (fun h100 => ?_) (fun h100 => absurd h100 (by decide))
              refine gx_aload_n C 0 dd_Mo_compose_106 (kk := ?_)
              refine mo_get C fd_Mo_7 dd_Mo_compose_107 (kk := ?_)
              refine gx_iconst (v := nI 4) C dd_Mo_compose_110 (kk := ?_)
              refine gx_aload_n C 0 dd_Mo_compose_111 (kk := ?_)
              refine mo_get C fd_Mo_103 dd_Mo_compose_112 (kk := ?_)
              refine gx_topi _ hiv5.2.1.1 ?_
              refine mo_s44 C dd_Mo_compose_115 (by omega) (kk := fun F115 hF115 => ?_)
              refine gx_iconst (v := nI 0) C dd_Mo_compose_116 (kk := ?_)
              refine gx_istore C _ dd_Mo_compose_117 (kk := ?_)
              have loop : ∀ m k5 L1, k5 + m = c5.1.length → mo_is F115 L1 4 (c5.1.length, some (0, xa.2 + xb.2), co_es (σ.1 i) (σ.1 j) c5.1 k5, c5.2) → mo_w F L F115 L1 → gx_G K D 9 0 0 119 [(4, .int (nI k5)), (0, .ref (ad 43)), (1, .int (nI i)), (2, .int (nI j)), (3, .int (nI k))] [] (gx_w ad (mo_h dA ad h F115 L1 S5)) (gx_Z K D dA 0 0 (fun v w => ∃ F2 L2 S2, w = (gx_w ad (mo_h dA ad h F2 L2 S2)) ∧ rs F2 L2 S2 (o_compose σ (nI i) (nI j) (nI k)).2 ∧ v = some (.int (o_compose σ (nI i) (nI j) (nI k)).1))) := by
                intro m
                induction m with
                | zero =>
                  intro k5 L1 hk5 hM5 hw1
                  refine gx_iload C 0 dd_Mo_compose_119 (kk := ?_)
                  refine gx_aload_n C 1 dd_Mo_compose_121 (kk := ?_)
                  refine mo_get C fd_Mo_103 dd_Mo_compose_122 (kk := ?_)
                  refine gx_topi _ hiv5.2.1.1 ?_
                  refine gx_icmp_ge C 216 dd_Mo_compose_125 (fun h125 => ?_) (fun h125 => absurd (nI_le (a := c5.1.length) (b := k5) (by omega) (by omega)) h125)
                  refine gx_aload_n C 1 dd_Mo_compose_216 (kk := ?_)
                  refine gx_iload_n C 4 dd_Mo_compose_217 (kk := ?_)
                  refine gx_callV C (ct_Mo_keep (gx_l K) D dA ad h F115 L1 S5 (c := k) (B := 4000000000) (b := (c5.1.length, some (0, xa.2 + xb.2), co_es (σ.1 i) (σ.1 j) c5.1 c5.1.length, c5.2)) (by omega) (by rw [show k5 = c5.1.length by omega] at hM5; exact hM5) hl16 (by decide) (fun x hx => (hiv5.2.2.2 x hx).2) (mc_esb hok.1.2.2.2.1 hok2.1.2.2.2.1 c5.1 c5.1.length) (fun x hx => by cases hx; exact ⟨by show (0 : Nat) < 16; decide, by show xa.2 + xb.2 < _; omega⟩)) me_Mo_keep ml_Mo_126 mn_Mo_keep _ (gx_w_at (by decide) mo_h_43) rfl dd_Mo_compose_218 (kk := fun v w hq => ?_)
                  rcases hq with ⟨hfit, rfl, F7, L7, rfl, hM7, hf7⟩ | ⟨hfit, rfl, rfl⟩
                  · refine gx_if_eq C 231 dd_Mo_compose_221 (fun h221 => absurd h221 (by decide)) (fun h221 => ?_)
                    refine gx_aload_n C 1 dd_Mo_compose_224 (kk := ?_)
                    refine mo_get C fd_Mo_103 dd_Mo_compose_225 (kk := ?_)
                    refine gx_topi _ hiv5.2.1.1 ?_
                    refine gx_goto C 233 dd_Mo_compose_228 (kk := ?_)
                    refine gx_iret C dd_Mo_compose_233 ?_
                    have hmk : co_mk (σ.1 i) (σ.1 j) = some (c5.1.length, some (0, xa.2 + xb.2), co_es (σ.1 i) (σ.1 j) c5.1 c5.1.length, c5.2) := by
                      unfold co_mk
                      simp only [hsa, hsb, hx]
                    have hsp : o_compose σ (nI i) (nI j) (nI k) = (nI c5.1.length, o_set σ k (c5.1.length, some (0, xa.2 + xb.2), co_es (σ.1 i) (σ.1 j) c5.1 c5.1.length, c5.2)) := by
                      unfold o_compose
                      simp only [hi, hj, hk]
                      rw [hmk]
                      exact o_keep_y hfit
                    rw [hsp]
                    exact ⟨F7, L7, _, rfl, rs_set hf7 hM7 (mo_w_rs hw1 (hS5 10 (by decide)) (hS5 14 (by decide)) hr), rfl⟩
                  · refine gx_if_eq C 231 dd_Mo_compose_221 (fun h221 => ?_) (fun h221 => absurd rfl h221)
                    refine gx_bipush (v := -2) C dd_Mo_compose_231 (kk := ?_)
                    refine gx_iret C dd_Mo_compose_233 ?_
                    have hmk : co_mk (σ.1 i) (σ.1 j) = some (c5.1.length, some (0, xa.2 + xb.2), co_es (σ.1 i) (σ.1 j) c5.1 c5.1.length, c5.2) := by
                      unfold co_mk
                      simp only [hsa, hsb, hx]
                    have hsp : o_compose σ (nI i) (nI j) (nI k) = (-2, σ) := by
                      unfold o_compose
                      simp only [hi, hj, hk]
                      rw [hmk]
                      exact o_keep_n hfit
                    rw [hsp]
                    exact ⟨_, _, _, rfl, mo_w_rs hw1 (hS5 10 (by decide)) (hS5 14 (by decide)) hr, rfl⟩
                | succ m ih =>
                  intro k5 L1 hk5 hM5 hw1
                  obtain ⟨t, ht⟩ : ∃ t, c5.1[k5]? = some t := ⟨_, List.getElem?_eq_getElem (by omega)⟩
                  have hto := hiv5.2.1.2.2.1 t (List.mem_of_getElem? ht)
                  obtain ⟨ht1, ht2, ht3⟩ := hto
                  have hto : co_ok t := ⟨ht1, ht2, ht3⟩
                  refine gx_iload C 0 dd_Mo_compose_119 (kk := ?_)
                  refine gx_aload_n C 1 dd_Mo_compose_121 (kk := ?_)
                  refine mo_get C fd_Mo_103 dd_Mo_compose_122 (kk := ?_)
                  refine gx_topi _ hiv5.2.1.1 ?_
                  refine gx_icmp_ge C 216 dd_Mo_compose_125 (fun h125 => absurd h125 (nI_ge (by omega) (by omega))) (fun h125 => ?_)
                  refine gx_aload_n C 1 dd_Mo_compose_128 (kk := ?_)
                  refine mo_get C fd_Mo_20 dd_Mo_compose_129 (kk := ?_)
                  refine gx_bipush (v := nI 16) C dd_Mo_compose_132 (kk := ?_)
                  refine gx_iload_n C 2 dd_Mo_compose_134 (kk := ?_)
                  refine gx_imul C dd_Mo_compose_135 (kk := ?_)
                  refine gx_topi _ (pk_mul _ _) ?_
                  refine gx_aload_n C 1 dd_Mo_compose_136 (kk := ?_)
                  refine mo_get C fd_Mo_69 dd_Mo_compose_137 (kk := ?_)
                  refine gx_iload C 0 dd_Mo_compose_140 (kk := ?_)
                  refine mo_l63 C dd_Mo_compose_142 (by omega) (kk := ?_)
                  refine gx_topi (nI (mc_cd t)) (by rw [hF115, gm_un (by decide)]; exact hiv5.2.1.2.1 k5 t ht) ?_
                  refine gx_bipush (v := nI 16) C dd_Mo_compose_143 (kk := ?_)
                  refine gx_irem C dd_Mo_compose_145 (kk := ?_)
                  refine gx_topi (nI t.1) (mc_p hto) ?_
                  refine gx_iadd C dd_Mo_compose_146 (kk := ?_)
                  refine gx_topi _ (nI_add _ _) ?_
                  refine mo_l47 C dd_Mo_compose_147 (by omega) (kk := ?_)
                  refine gx_topl _ ((mo_w_is hw1 hi4 (hM i hi4)).2.2.1 t.1 (by omega)) ?_
                  refine gx_lstore C _ dd_Mo_compose_148 (kk := ?_)
                  refine gx_aload_n C 2 dd_Mo_compose_150 (kk := ?_)
                  refine mo_get C fd_Mo_20 dd_Mo_compose_151 (kk := ?_)
                  refine gx_bipush (v := nI 16) C dd_Mo_compose_154 (kk := ?_)
                  refine gx_iload_n C 4 dd_Mo_compose_156 (kk := ?_)
                  refine gx_imul C dd_Mo_compose_157 (kk := ?_)
                  refine gx_topi _ (pk_mul _ _) ?_
                  refine gx_aload_n C 2 dd_Mo_compose_158 (kk := ?_)
                  refine mo_get C fd_Mo_69 dd_Mo_compose_159 (kk := ?_)
                  refine gx_iload C 1 dd_Mo_compose_162 (kk := ?_)
                  refine mo_l63 C dd_Mo_compose_164 (by omega) (kk := ?_)
                  refine gx_topi (nI (mc_cd t)) (by rw [hF115, gm_un (by decide)]; exact hiv5.2.1.2.1 k5 t ht) ?_
                  refine gx_bipush (v := nI 16) C dd_Mo_compose_165 (kk := ?_)
                  refine gx_idiv C dd_Mo_compose_167 (kk := ?_)
                  refine gx_topi _ (mc_q1 hto) ?_
                  refine gx_bipush (v := nI 16) C dd_Mo_compose_168 (kk := ?_)
                  refine gx_irem C dd_Mo_compose_170 (kk := ?_)
                  refine gx_topi (nI t.2.1) (mc_q2 hto) ?_
                  refine gx_iadd C dd_Mo_compose_171 (kk := ?_)
                  refine gx_topi _ (nI_add _ _) ?_
                  refine mo_l47 C dd_Mo_compose_172 (by omega) (kk := ?_)
                  refine gx_topl _ ((mo_w_is hw1 hj4 (hM j hj4)).2.2.1 t.2.1 (by omega)) ?_
                  refine gx_lstore C _ dd_Mo_compose_173 (kk := ?_)
                  refine gx_aload_n C 3 dd_Mo_compose_175 (kk := ?_)
                  refine mo_get C fd_Mo_20 dd_Mo_compose_176 (kk := ?_)
                  refine gx_bipush (v := nI 64) C dd_Mo_compose_179 (kk := ?_)
                  refine gx_iload C 2 dd_Mo_compose_181 (kk := ?_)
                  refine gx_iadd C dd_Mo_compose_183 (kk := ?_)
                  refine gx_topi _ (nI_add _ _) ?_
                  rcases hex : am_en (σ.1 i) t.1 with _ | ea
                  · refine gx_lload C 1 dd_Mo_compose_184 (kk := ?_)
                    refine gx_lconst (v := lN 0) C dd_Mo_compose_186 (kk := ?_)
                    refine gx_lcmp C dd_Mo_compose_187 (kk := ?_)
                    refine gx_if_lt C 198 dd_Mo_compose_188 (fun h188 => ?_) (fun h188 => absurd (by decide) h188)
                    refine gx_ldc2 C dd_Mo_compose_198 kc_Mo_79 (kk := ?_)
                    refine gx_goto C 209 dd_Mo_compose_201 (kk := ?_)
                    refine mo_s47 C dd_Mo_compose_209 (by omega) (kk := fun L209 hL209 => ?_)
                    refine gx_iinc C 2 (nI (k5 + 1)) _ dd_Mo_compose_210 (nI_1 _) (kk := ?_)
                    refine gx_goto C 119 dd_Mo_compose_213 (kk := ?_)
                    refine gx_loc [0, 3, 4, 5, 6] ?_
                    have hoa : co_oa (am_en (σ.1 i) t.1) (am_en (σ.1 j) t.2.1) = none := by
                      rw [hex]
                      rfl
                    refine ih (k5 + 1) L209 (by omega) ?_ (mo_w_tr hw1 (mo_w_fr (mo_fr_47 (s := 4) (q := k5) (by omega) hL209)))
                    have hM6 := mo_is_en (s := 4) (q := k5) (o := none) hL209 rfl hM5
                    rw [← hoa] at hM6
                    have hes := co_es_s (a := σ.1 i) (b := σ.1 j) (X := []) ht
                    rw [List.append_nil] at hes
                    rw [← hes]
                    exact hM6
                  · have hea := hok.1.2.2.2.1 _ _ hex
                    refine gx_lload C 1 dd_Mo_compose_184 (kk := ?_)
                    refine gx_lconst (v := lN 0) C dd_Mo_compose_186 (kk := ?_)
                    refine gx_lcmp C dd_Mo_compose_187 (kk := ?_)
                    refine gx_if_lt C 198 dd_Mo_compose_188 (fun h188 => absurd (lc_lt.mp h188) (by show ¬ lN ea < lN 0; rw [pk_lLT (by omega) (by decide)]; omega)) (fun h188 => ?_)
                    rcases hey : am_en (σ.1 j) t.2.1 with _ | eb
                    · refine gx_lload C 0 dd_Mo_compose_191 (kk := ?_)
                      refine gx_lconst (v := lN 0) C dd_Mo_compose_193 (kk := ?_)
                      refine gx_lcmp C dd_Mo_compose_194 (kk := ?_)
                      refine gx_if_ge C 204 dd_Mo_compose_195 (fun h195 => absurd h195 (by decide)) (fun h195 => ?_)
                      refine gx_ldc2 C dd_Mo_compose_198 kc_Mo_79 (kk := ?_)
                      refine gx_goto C 209 dd_Mo_compose_201 (kk := ?_)
                      refine mo_s47 C dd_Mo_compose_209 (by omega) (kk := fun L209 hL209 => ?_)
                      refine gx_iinc C 2 (nI (k5 + 1)) _ dd_Mo_compose_210 (nI_1 _) (kk := ?_)
                      refine gx_goto C 119 dd_Mo_compose_213 (kk := ?_)
                      refine gx_loc [0, 3, 4, 5, 6] ?_
                      have hoa : co_oa (am_en (σ.1 i) t.1) (am_en (σ.1 j) t.2.1) = none := by
                        rw [hex, hey]
                        rfl
                      refine ih (k5 + 1) L209 (by omega) ?_ (mo_w_tr hw1 (mo_w_fr (mo_fr_47 (s := 4) (q := k5) (by omega) hL209)))
                      have hM6 := mo_is_en (s := 4) (q := k5) (o := none) hL209 rfl hM5
                      rw [← hoa] at hM6
                      have hes := co_es_s (a := σ.1 i) (b := σ.1 j) (X := []) ht
                      rw [List.append_nil] at hes
                      rw [← hes]
                      exact hM6
                    · have heb := hok2.1.2.2.2.1 _ _ hey
                      refine gx_lload C 0 dd_Mo_compose_191 (kk := ?_)
                      refine gx_lconst (v := lN 0) C dd_Mo_compose_193 (kk := ?_)
                      refine gx_lcmp C dd_Mo_compose_194 (kk := ?_)
                      refine gx_if_ge C 204 dd_Mo_compose_195 (fun h195 => ?_) (fun h195 => absurd (lc_ge.mpr (by show lN 0 ≤ lN eb; rw [pk_lLE (by decide) (by omega)]; omega)) h195)
                      refine gx_lload C 1 dd_Mo_compose_204 (kk := ?_)
                      refine gx_lload C 0 dd_Mo_compose_206 (kk := ?_)
                      refine gx_ladd C dd_Mo_compose_208 (kk := ?_)
                      refine gx_topl _ (lN_add _ _) ?_
                      refine mo_s47 C dd_Mo_compose_209 (by omega) (kk := fun L209 hL209 => ?_)
                      refine gx_iinc C 2 (nI (k5 + 1)) _ dd_Mo_compose_210 (nI_1 _) (kk := ?_)
                      refine gx_goto C 119 dd_Mo_compose_213 (kk := ?_)
                      refine gx_loc [0, 3, 4, 5, 6] ?_
                      have hoa : co_oa (am_en (σ.1 i) t.1) (am_en (σ.1 j) t.2.1) = (some (ea + eb)) := by
                        rw [hex, hey]
                        rfl
                      refine ih (k5 + 1) L209 (by omega) ?_ (mo_w_tr hw1 (mo_w_fr (mo_fr_47 (s := 4) (q := k5) (by omega) hL209)))
                      have hM6 := mo_is_en (s := 4) (q := k5) (o := (some (ea + eb))) hL209 rfl hM5
                      rw [← hoa] at hM6
                      have hes := co_es_s (a := σ.1 i) (b := σ.1 j) (X := []) ht
                      rw [List.append_nil] at hes
                      rw [← hes]
                      exact hM6
              exact loop c5.1.length 0 L5 (by omega) (by rw [co_es_0]; exact mo_is_n hF115 hiv5.1) (mo_w_tr hw5 (mo_w_fr (mo_fr_44 hF115)))
