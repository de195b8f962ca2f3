theorem mo_dec {n m : Nat} (h : n = m + 1) : nI n + Int32.ofInt (-1) = nI m := by
  subst h
  exact pk_m1 m
/-- the rows above a place moved up by one -/
def mo_sh {α : Type} (f : Nat → α) (b i n : Nat) : Nat → α := fun z => if b + i < z ∧ z ≤ b + n then f (z - 1) else f z
theorem mo_sh_0 {α : Type} (f : Nat → α) (b n : Nat) : mo_sh f b n n = f := by
  funext z
  unfold mo_sh
  rw [if_neg (by omega)]
theorem mo_sh_s (f : Nat → Int32) {b i n : Nat} (h1 : 1 ≤ i) (h2 : i ≤ n) : upd (mo_sh f b i n) (b + i) (mo_sh f b i n (b + i - 1)) = mo_sh f b (i - 1) n := by
  funext z
  by_cases hz : z = b + i
  · subst hz
    rw [pk_us]
    unfold mo_sh
    rw [if_neg (by omega), if_pos (by omega)]
  · rw [pk_un hz]
    unfold mo_sh
    by_cases hc : b + i < z ∧ z ≤ b + n
    · rw [if_pos hc, if_pos (by omega)]
    · rw [if_neg hc, if_neg (by omega)]
theorem mo_sh_sL (f : Nat → Int64) {b i n : Nat} (h1 : 1 ≤ i) (h2 : i ≤ n) : vp_updL (mo_sh f b i n) (b + i) (mo_sh f b i n (b + i - 1)) = mo_sh f b (i - 1) n := by
  funext z
  by_cases hz : z = b + i
  · subst hz
    rw [pk_uLs]
    unfold mo_sh
    rw [if_neg (by omega), if_pos (by omega)]
  · rw [pk_uLn hz]
    unfold mo_sh
    by_cases hc : b + i < z ∧ z ≤ b + n
    · rw [if_pos hc, if_pos (by omega)]
    · rw [if_neg hc, if_neg (by omega)]
theorem mo_sh_lo {α : Type} {f : Nat → α} {b i n j : Nat} (h : j ≤ i) : mo_sh f b i n (b + j) = f (b + j) := by
  unfold mo_sh
  rw [if_neg (by omega)]
theorem mo_sh_hi {α : Type} {f : Nat → α} {b i n j : Nat} (h : i < j) (h2 : j ≤ n) : mo_sh f b i n (b + j) = f (b + (j - 1)) := by
  unfold mo_sh
  rw [if_pos (by omega), show b + j - 1 = b + (j - 1) by omega]
theorem mo_sh_out {α : Type} {f : Nat → α} {b i n z : Nat} (h : z < b ∨ b + n < z) : mo_sh f b i n z = f z := by
  unfold mo_sh
  rw [if_neg (by omega)]
set_option maxRecDepth 100000 in
set_option maxHeartbeats 4000000 in
theorem ct_Mo_put (l : Launch) (D : va_G) (dA : Nat → ClassId) (ad : Nat → Nat) (h : Nat → va_E) (F : mo_F) (L : mo_L) (S : Nat → Int32) {s f t i o x0 B : Nat} {a : am_T} (hs : s < 5) (hM : mo_is F L s a) (hs2 : am_so (am_ar a)) (hkb : ∀ x ∈ am_ar a, x.1 < 16384) (hwb : ∀ x ∈ am_ar a, x.2 < B) (hB : B ≤ 2 ^ 62) (hf : f < 16) (ht : t < 16) (hi : i < 8) (ho : o < 8) (hx0 : x0 < B) : gx_Ct l D dA yy_Mo_put cc_Mo_put 11 (some .boolean) 1 0 0 [.ref (ad 43), .int (nI s), .int (nI f), .int (nI t), .int (nI i), .int (nI o), .long (lN x0)] (gx_w ad (mo_h dA ad h F L S)) (fun v w => (am_rm (pr_k f i o t) (am_ar a) = true ∧ v = some (.int (nI 1)) ∧ ∃ F2 L2, w = (gx_w ad (mo_h dA ad h F2 L2 S)) ∧ mo_is F2 L2 s (am_n a, am_st a, am_en a, am_in (pr_k f i o t) x0 (am_ar a)) ∧ mo_fr s F L F2 L2) ∨ (am_rm (pr_k f i o t) (am_ar a) = false ∧ v = some (.int (nI 0)) ∧ w = (gx_w ad (mo_h dA ad h F L S)))) := by
  refine gx_of (by decide) (Nat.le_of_ble_eq_true rfl) (fun K C _ _ => ?_)
  have hl64 := hM.2.2.2.2.2
  have hPle := am_pl_le (pr_k f i o t) (am_ar a)
  have place : gx_G K D 11 0 0 47 [(8, .int (nI (65 * s + am_pl (pr_k f i o t) (am_ar a)))), (9, .int (nI (65 * s + (am_ar a).length))), (0, .ref (ad 43)), (1, .int (nI s)), (2, .int (nI f)), (3, .int (nI t)), (4, .int (nI i)), (5, .int (nI o)), (6, .long (lN x0))] [] (gx_w ad (mo_h dA ad h F L S)) (gx_Z K D dA 0 0 (fun v w => (am_rm (pr_k f i o t) (am_ar a) = true ∧ v = some (.int (nI 1)) ∧ ∃ F2 L2, w = (gx_w ad (mo_h dA ad h F2 L2 S)) ∧ mo_is F2 L2 s (am_n a, am_st a, am_en a, am_in (pr_k f i o t) x0 (am_ar a)) ∧ mo_fr s F L F2 L2) ∨ (am_rm (pr_k f i o t) (am_ar a) = false ∧ v = some (.int (nI 0)) ∧ w = (gx_w ad (mo_h dA ad h F L S))))) := by
    refine gx_iload C 0 dd_Mo_put_47 (kk := ?_)
    refine gx_iload C 1 dd_Mo_put_49 (kk := ?_)
    refine gx_icmp_ge C 103 dd_Mo_put_51 (fun h51 => ?_) (fun h51 => ?_)
    · have hno : ∀ y, (am_ar a)[am_pl (pr_k f i o t) (am_ar a)]? = some y → ¬ y.1 = pr_k f i o t := fun y hy => by
        rw [nI_leI (by omega) (by omega)] at h51
        have := (List.getElem?_eq_some_iff.mp hy).1
        omega
      have hhas : am_has (pr_k f i o t) (am_ar a) = false := by
        unfold am_has
        rcases hxp : (am_ar a)[am_pl (pr_k f i o t) (am_ar a)]? with _ | y
        · rfl
        · exact beq_false_of_ne (hno y hxp)
      have hin : am_in (pr_k f i o t) x0 (am_ar a) = (am_ar a).take (am_pl (pr_k f i o t) (am_ar a)) ++ (pr_k f i o t, x0) :: (am_ar a).drop (am_pl (pr_k f i o t) (am_ar a)) := by
        unfold am_in
        rcases hxp : (am_ar a)[am_pl (pr_k f i o t) (am_ar a)]? with _ | y
        · rfl
        · show (if y.1 = pr_k f i o t then _ else _) = _
          rw [if_neg (hno y hxp)]
      skip
      · refine gx_aload_n C 2 dd_Mo_put_103 (kk := ?_)
        refine mo_get C fd_Mo_23 dd_Mo_put_104 (kk := ?_)
        refine gx_iload_n C 3 dd_Mo_put_107 (kk := ?_)
        refine mo_l48 C dd_Mo_put_108 (by omega) (kk := ?_)
        refine gx_topi _ hM.2.2.2.1 ?_
        refine gx_bipush (v := nI 64) C dd_Mo_put_109 (kk := ?_)
        refine gx_icmp_ne C 116 dd_Mo_put_111 (fun h111 => ?_) (fun h111 => ?_)
        · refine gx_iload C 1 dd_Mo_put_116 (kk := ?_)
          refine gx_istore C _ dd_Mo_put_118 (kk := ?_)
          rw [nI_eq (by omega) (by decide)] at h111
          have loop2 : ∀ m z F1 L1, z = am_pl (pr_k f i o t) (am_ar a) + m → z ≤ (am_ar a).length → F1 49 = mo_sh (F 49) (65 * s) z (am_ar a).length → F1 50 = mo_sh (F 50) (65 * s) z (am_ar a).length → F1 51 = mo_sh (F 51) (65 * s) z (am_ar a).length → F1 52 = mo_sh (F 52) (65 * s) z (am_ar a).length → L1 53 = mo_sh (L 53) (65 * s) z (am_ar a).length → (∀ k, k ≠ 49 → k ≠ 50 → k ≠ 51 → k ≠ 52 → F1 k = F k) → (∀ k, k ≠ 53 → L1 k = L k) → mo_fr s F L F1 L1 → gx_G K D 11 0 0 120 [(10, .int (nI (65 * s + z))), (8, .int (nI (65 * s + am_pl (pr_k f i o t) (am_ar a)))), (9, .int (nI (65 * s + (am_ar a).length))), (0, .ref (ad 43)), (1, .int (nI s)), (2, .int (nI f)), (3, .int (nI t)), (4, .int (nI i)), (5, .int (nI o)), (6, .long (lN x0))] [] (gx_w ad (mo_h dA ad h F1 L1 S)) (gx_Z K D dA 0 0 (fun v w => (am_rm (pr_k f i o t) (am_ar a) = true ∧ v = some (.int (nI 1)) ∧ ∃ F2 L2, w = (gx_w ad (mo_h dA ad h F2 L2 S)) ∧ mo_is F2 L2 s (am_n a, am_st a, am_en a, am_in (pr_k f i o t) x0 (am_ar a)) ∧ mo_fr s F L F2 L2) ∨ (am_rm (pr_k f i o t) (am_ar a) = false ∧ v = some (.int (nI 0)) ∧ w = (gx_w ad (mo_h dA ad h F L S))))) := by
            intro m
            induction m with
            | zero =>
              intro z F1 L1 hz hzl h49 h50 h51 h52 h53 hFk hLk hfr
              rw [show z = am_pl (pr_k f i o t) (am_ar a) by omega] at h49 h50 h51 h52 h53
              refine gx_iload C 0 dd_Mo_put_120 (kk := ?_)
              refine gx_iload C 1 dd_Mo_put_122 (kk := ?_)
              refine gx_icmp_le C 213 dd_Mo_put_124 (fun h124 => ?_) (fun h124 => absurd (nI_le (a := 65 * s + z) (b := 65 * s + am_pl (pr_k f i o t) (am_ar a)) (by omega) (by omega)) h124)
              refine gx_aload_n C 3 dd_Mo_put_213 (kk := ?_)
              refine mo_get C fd_Mo_26 dd_Mo_put_214 (kk := ?_)
              refine gx_iload C 1 dd_Mo_put_217 (kk := ?_)
              refine gx_iload_n C 5 dd_Mo_put_219 (kk := ?_)
              refine mo_s49 C dd_Mo_put_220 (by omega) (kk := fun F220 hF220 => ?_)
              refine gx_aload_n C 3 dd_Mo_put_221 (kk := ?_)
              refine mo_get C fd_Mo_29 dd_Mo_put_222 (kk := ?_)
              refine gx_iload C 1 dd_Mo_put_225 (kk := ?_)
              refine gx_iload_n C 6 dd_Mo_put_227 (kk := ?_)
              refine mo_s50 C dd_Mo_put_228 (by omega) (kk := fun F228 hF228 => ?_)
              refine gx_aload_n C 3 dd_Mo_put_229 (kk := ?_)
              refine mo_get C fd_Mo_32 dd_Mo_put_230 (kk := ?_)
              refine gx_iload C 1 dd_Mo_put_233 (kk := ?_)
              refine gx_iload C 7 dd_Mo_put_235 (kk := ?_)
              refine mo_s51 C dd_Mo_put_237 (by omega) (kk := fun F237 hF237 => ?_)
              refine gx_aload_n C 3 dd_Mo_put_238 (kk := ?_)
              refine mo_get C fd_Mo_35 dd_Mo_put_239 (kk := ?_)
              refine gx_iload C 1 dd_Mo_put_242 (kk := ?_)
              refine gx_iload C 8 dd_Mo_put_244 (kk := ?_)
              refine mo_s52 C dd_Mo_put_246 (by omega) (kk := fun F246 hF246 => ?_)
              refine gx_aload_n C 3 dd_Mo_put_247 (kk := ?_)
              refine mo_get C fd_Mo_38 dd_Mo_put_248 (kk := ?_)
              refine gx_iload C 1 dd_Mo_put_251 (kk := ?_)
              refine gx_lload C 9 dd_Mo_put_253 (kk := ?_)
              refine mo_s53 C dd_Mo_put_255 (by omega) (kk := fun L255 hL255 => ?_)
              refine gx_aload_n C 3 dd_Mo_put_256 (kk := ?_)
              refine mo_get C fd_Mo_23 dd_Mo_put_257 (kk := ?_)
              refine gx_iload_n C 4 dd_Mo_put_260 (kk := ?_)
              refine gx_dup2_11 C dd_Mo_put_261 (kk := ?_)
              refine mo_l48 C dd_Mo_put_262 (by omega) (kk := ?_)
              refine gx_topi (nI (am_ar a).length) ?_ ?_
              · rw [hF246, gm_un (by decide), hF237, gm_un (by decide), hF228, gm_un (by decide), hF220, gm_un (by decide), hFk 48 (by decide) (by decide) (by decide) (by decide)]
                exact hM.2.2.2.1
              refine gx_iconst (v := nI 1) C dd_Mo_put_263 (kk := ?_)
              refine gx_iadd C dd_Mo_put_264 (kk := ?_)
              refine gx_topi _ (nI_add _ _) ?_
              refine mo_s48 C dd_Mo_put_265 (by omega) (kk := fun F265 hF265 => ?_)
              refine gx_iconst (v := nI 1) C dd_Mo_put_266 (kk := ?_)
              refine gx_zret C dd_Mo_put_267 (by first | rfl | exact fb_nar) ?_
              have hP := am_pl_le (pr_k f i o t) (am_ar a)
              refine Or.inl ⟨?_, rfl, F265, L255, rfl, ⟨?_, ?_, ?_, ?_, ?_, ?_⟩, ?_⟩
              · unfold am_rm
                rw [decide_eq_true (show (am_ar a).length < 64 by omega), Bool.or_true]
              · rw [hF265, gm_un (by decide), hF246, gm_un (by decide), hF237, gm_un (by decide), hF228, gm_un (by decide), hF220, gm_un (by decide), hFk 44 (by decide) (by decide) (by decide) (by decide)]
                exact hM.1
              · rw [hF265, gm_un (by decide), hF246, gm_un (by decide), hF237, gm_un (by decide), hF228, gm_un (by decide), hF220, gm_un (by decide), hFk 45 (by decide) (by decide) (by decide) (by decide), hL255, gm_un (by decide), hLk 46 (by decide)]
                exact hM.2.1
              · intro q hq
                rw [hL255, gm_un (by decide), hLk 47 (by decide)]
                exact hM.2.2.1 q hq
              · rw [hF265, gm_us, pk_us]
                show _ = nI (am_in (pr_k f i o t) x0 (am_ar a)).length
                rw [hin, am_ins_len hP]
              · intro j y hy
                have hy : (am_in (pr_k f i o t) x0 (am_ar a))[j]? = some y := hy
                rw [hin, am_ins_at hP] at hy
                have e49 : F265 49 = upd (mo_sh (F 49) (65 * s) (am_pl (pr_k f i o t) (am_ar a)) (am_ar a).length) (65 * s + am_pl (pr_k f i o t) (am_ar a)) (nI f) := by
                  rw [hF265, gm_un (by decide), hF246, gm_un (by decide), hF237, gm_un (by decide), hF228, gm_un (by decide), hF220, gm_us, h49]
                have e50 : F265 50 = upd (mo_sh (F 50) (65 * s) (am_pl (pr_k f i o t) (am_ar a)) (am_ar a).length) (65 * s + am_pl (pr_k f i o t) (am_ar a)) (nI t) := by
                  rw [hF265, gm_un (by decide), hF246, gm_un (by decide), hF237, gm_un (by decide), hF228, gm_us, hF220, gm_un (by decide), h50]
                have e51 : F265 51 = upd (mo_sh (F 51) (65 * s) (am_pl (pr_k f i o t) (am_ar a)) (am_ar a).length) (65 * s + am_pl (pr_k f i o t) (am_ar a)) (nI i) := by
                  rw [hF265, gm_un (by decide), hF246, gm_un (by decide), hF237, gm_us, hF228, gm_un (by decide), hF220, gm_un (by decide), h51]
                have e52 : F265 52 = upd (mo_sh (F 52) (65 * s) (am_pl (pr_k f i o t) (am_ar a)) (am_ar a).length) (65 * s + am_pl (pr_k f i o t) (am_ar a)) (nI o) := by
                  rw [hF265, gm_un (by decide), hF246, gm_us, hF237, gm_un (by decide), hF228, gm_un (by decide), hF220, gm_un (by decide), h52]
                have e53 : L255 53 = vp_updL (mo_sh (L 53) (65 * s) (am_pl (pr_k f i o t) (am_ar a)) (am_ar a).length) (65 * s + am_pl (pr_k f i o t) (am_ar a)) (lN x0) := by
                  rw [hL255, gm_us, h53]
                unfold mo_a
                rw [e49, e50, e51, e52, e53]
                by_cases hj1 : j < am_pl (pr_k f i o t) (am_ar a)
                · rw [if_pos hj1] at hy
                  rw [pk_un (by omega), pk_un (by omega), pk_un (by omega), pk_un (by omega), pk_uLn (by omega), mo_sh_lo (by omega), mo_sh_lo (by omega), mo_sh_lo (by omega), mo_sh_lo (by omega), mo_sh_lo (by omega)]
                  exact hM.2.2.2.2.1 j y hy
                · rw [if_neg hj1] at hy
                  by_cases hj2 : j = am_pl (pr_k f i o t) (am_ar a)
                  · rw [if_pos hj2] at hy
                    cases hy
                    rw [hj2, pk_us, pk_us, pk_us, pk_us, pk_uLs]
                    have hkk : pr_k f i o t = f * 1024 + (8 * i + o) * 16 + t := rfl
                    exact ⟨congrArg nI (by show f = pr_k f i o t / 1024; omega), congrArg nI (by show t = pr_k f i o t % 16; omega), congrArg nI (by show i = pr_k f i o t / 128 % 8; omega), congrArg nI (by show o = pr_k f i o t / 16 % 8; omega), rfl⟩
                  · rw [if_neg hj2] at hy
                    have hjl := (List.getElem?_eq_some_iff.mp hy).1
                    rw [pk_un (by omega), pk_un (by omega), pk_un (by omega), pk_un (by omega), pk_uLn (by omega), mo_sh_hi (by omega) (by omega), mo_sh_hi (by omega) (by omega), mo_sh_hi (by omega) (by omega), mo_sh_hi (by omega) (by omega), mo_sh_hi (by omega) (by omega)]
                    exact hM.2.2.2.2.1 (j - 1) y hy
              · show (am_in (pr_k f i o t) x0 (am_ar a)).length ≤ 64
                rw [hin, am_ins_len hP]
                omega
              · exact mo_fr_tr hfr (mo_fr_tr (mo_fr_49 (by omega) hF220) (mo_fr_tr (mo_fr_50 (by omega) hF228) (mo_fr_tr (mo_fr_51 (by omega) hF237) (mo_fr_tr (mo_fr_52 (by omega) hF246) (mo_fr_tr (mo_fr_53 (by omega) hL255) (mo_fr_48 hF265))))))
            | succ m ih =>
              intro z F1 L1 hz hzl h49 h50 h51 h52 h53 hFk hLk hfr
              refine gx_iload C 0 dd_Mo_put_120 (kk := ?_)
              refine gx_iload C 1 dd_Mo_put_122 (kk := ?_)
              refine gx_icmp_le C 213 dd_Mo_put_124 (fun h124 => absurd h124 (nI_ge (by omega) (by omega))) (fun h124 => ?_)
              refine gx_aload_n C 3 dd_Mo_put_127 (kk := ?_)
              refine mo_get C fd_Mo_26 dd_Mo_put_128 (kk := ?_)
              refine gx_iload C 0 dd_Mo_put_131 (kk := ?_)
              refine gx_aload_n C 3 dd_Mo_put_133 (kk := ?_)
              refine mo_get C fd_Mo_26 dd_Mo_put_134 (kk := ?_)
              refine gx_iload C 0 dd_Mo_put_137 (kk := ?_)
              refine gx_iconst (v := nI 1) C dd_Mo_put_139 (kk := ?_)
              refine gx_isub C dd_Mo_put_140 (kk := ?_)
              refine gx_topi (nI (65 * s + z - 1)) (pk_sub (b := 1) (by omega)) ?_
              refine mo_l49 C dd_Mo_put_141 (by omega) (kk := ?_)
              refine mo_s49 C dd_Mo_put_142 (by omega) (kk := fun F142 hF142 => ?_)
              refine gx_aload_n C 3 dd_Mo_put_143 (kk := ?_)
              refine mo_get C fd_Mo_29 dd_Mo_put_144 (kk := ?_)
              refine gx_iload C 0 dd_Mo_put_147 (kk := ?_)
              refine gx_aload_n C 3 dd_Mo_put_149 (kk := ?_)
              refine mo_get C fd_Mo_29 dd_Mo_put_150 (kk := ?_)
              refine gx_iload C 0 dd_Mo_put_153 (kk := ?_)
              refine gx_iconst (v := nI 1) C dd_Mo_put_155 (kk := ?_)
              refine gx_isub C dd_Mo_put_156 (kk := ?_)
              refine gx_topi (nI (65 * s + z - 1)) (pk_sub (b := 1) (by omega)) ?_
              refine mo_l50 C dd_Mo_put_157 (by omega) (kk := ?_)
              refine mo_s50 C dd_Mo_put_158 (by omega) (kk := fun F158 hF158 => ?_)
              refine gx_aload_n C 3 dd_Mo_put_159 (kk := ?_)
              refine mo_get C fd_Mo_32 dd_Mo_put_160 (kk := ?_)
              refine gx_iload C 0 dd_Mo_put_163 (kk := ?_)
              refine gx_aload_n C 3 dd_Mo_put_165 (kk := ?_)
              refine mo_get C fd_Mo_32 dd_Mo_put_166 (kk := ?_)
              refine gx_iload C 0 dd_Mo_put_169 (kk := ?_)
              refine gx_iconst (v := nI 1) C dd_Mo_put_171 (kk := ?_)
              refine gx_isub C dd_Mo_put_172 (kk := ?_)
              refine gx_topi (nI (65 * s + z - 1)) (pk_sub (b := 1) (by omega)) ?_
              refine mo_l51 C dd_Mo_put_173 (by omega) (kk := ?_)
              refine mo_s51 C dd_Mo_put_174 (by omega) (kk := fun F174 hF174 => ?_)
              refine gx_aload_n C 3 dd_Mo_put_175 (kk := ?_)
              refine mo_get C fd_Mo_35 dd_Mo_put_176 (kk := ?_)
              refine gx_iload C 0 dd_Mo_put_179 (kk := ?_)
              refine gx_aload_n C 3 dd_Mo_put_181 (kk := ?_)
              refine mo_get C fd_Mo_35 dd_Mo_put_182 (kk := ?_)
              refine gx_iload C 0 dd_Mo_put_185 (kk := ?_)
              refine gx_iconst (v := nI 1) C dd_Mo_put_187 (kk := ?_)
              refine gx_isub C dd_Mo_put_188 (kk := ?_)
              refine gx_topi (nI (65 * s + z - 1)) (pk_sub (b := 1) (by omega)) ?_
              refine mo_l52 C dd_Mo_put_189 (by omega) (kk := ?_)
              refine mo_s52 C dd_Mo_put_190 (by omega) (kk := fun F190 hF190 => ?_)
              refine gx_aload_n C 3 dd_Mo_put_191 (kk := ?_)
              refine mo_get C fd_Mo_38 dd_Mo_put_192 (kk := ?_)
              refine gx_iload C 0 dd_Mo_put_195 (kk := ?_)
              refine gx_aload_n C 3 dd_Mo_put_197 (kk := ?_)
              refine mo_get C fd_Mo_38 dd_Mo_put_198 (kk := ?_)
              refine gx_iload C 0 dd_Mo_put_201 (kk := ?_)
              refine gx_iconst (v := nI 1) C dd_Mo_put_203 (kk := ?_)
              refine gx_isub C dd_Mo_put_204 (kk := ?_)
              refine gx_topi (nI (65 * s + z - 1)) (pk_sub (b := 1) (by omega)) ?_
              refine mo_l53 C dd_Mo_put_205 (by omega) (kk := ?_)
              refine mo_s53 C dd_Mo_put_206 (by omega) (kk := fun L206 hL206 => ?_)
              refine gx_iinc C 0 (nI (65 * s + (z - 1))) _ dd_Mo_put_207 (mo_dec (n := 65 * s + z) (m := 65 * s + (z - 1)) (by omega)) (kk := ?_)
              refine gx_goto C 120 dd_Mo_put_210 (kk := ?_)
              refine ih (z - 1) F190 L206 (by omega) (by omega) ?_ ?_ ?_ ?_ ?_ (fun k a1 a2 a3 a4 => by rw [hF190, gm_un a4, hF174, gm_un a3, hF158, gm_un a2, hF142, gm_un a1]; exact hFk k a1 a2 a3 a4) (fun k a1 => by rw [hL206, gm_un a1]; exact hLk k a1) (mo_fr_tr hfr (mo_fr_tr (mo_fr_49 (by omega) hF142) (mo_fr_tr (mo_fr_50 (by omega) hF158) (mo_fr_tr (mo_fr_51 (by omega) hF174) (mo_fr_tr (mo_fr_52 (by omega) hF190) (mo_fr_53 (by omega) hL206))))))
              · rw [hF190, gm_un (by decide), hF174, gm_un (by decide), hF158, gm_un (by decide), hF142, gm_us, h49]
                exact mo_sh_s _ (by omega) (by omega)
              · rw [hF190, gm_un (by decide), hF174, gm_un (by decide), hF158, gm_us, hF142, gm_un (by decide), h50]
                exact mo_sh_s _ (by omega) (by omega)
              · rw [hF190, gm_un (by decide), hF174, gm_us, hF158, gm_un (by decide), hF142, gm_un (by decide), h51]
                exact mo_sh_s _ (by omega) (by omega)
              · rw [hF190, gm_us, hF174, gm_un (by decide), hF158, gm_un (by decide), hF142, gm_un (by decide), h52]
                exact mo_sh_s _ (by omega) (by omega)
              · rw [hL206, gm_us, h53]
                exact mo_sh_sL _ (by omega) (by omega)
          exact loop2 ((am_ar a).length - am_pl (pr_k f i o t) (am_ar a)) (am_ar a).length F L (by omega) (Nat.le_refl _) (mo_sh_0 _ _ _).symm (mo_sh_0 _ _ _).symm (mo_sh_0 _ _ _).symm (mo_sh_0 _ _ _).symm (mo_sh_0 _ _ _).symm (fun _ _ _ _ _ => rfl) (fun _ _ => rfl) mo_fr_rf
        · refine gx_iconst (v := nI 0) C dd_Mo_put_114 (kk := ?_)
          refine gx_zret C dd_Mo_put_115 (by first | rfl | exact fb_nar) ?_
          refine Or.inr ⟨?_, rfl, rfl⟩
          unfold am_rm
          rw [hhas, Bool.false_or]
          rw [nI_eq (by omega) (by decide)] at h111
          exact decide_eq_false (by omega)
    · rw [nI_leI (by omega) (by omega)] at h51
      obtain ⟨x, hx⟩ : ∃ x, (am_ar a)[am_pl (pr_k f i o t) (am_ar a)]? = some x := ⟨_, List.getElem?_eq_getElem (by omega)⟩
      have hxb := hwb x (List.mem_of_getElem? hx)
      refine gx_aload_n C 2 dd_Mo_put_54 (kk := ?_)
      refine gx_iload C 0 dd_Mo_put_55 (kk := ?_)
      refine gx_iload_n C 4 dd_Mo_put_57 (kk := ?_)
      refine gx_iload_n C 5 dd_Mo_put_58 (kk := ?_)
      refine gx_iload C 6 dd_Mo_put_59 (kk := ?_)
      refine gx_iload C 7 dd_Mo_put_61 (kk := ?_)
      refine gx_callV C (ct_Mo_against (gx_l K) D dA ad h F L S (k := 65 * s + am_pl (pr_k f i o t) (am_ar a)) (f := f) (t := t) (i := i) (o := o) (x := x) (by omega) (hM.2.2.2.2.1 _ x hx) (hkb x (List.mem_of_getElem? hx)) hf ht hi ho) me_Mo_against ml_Mo_95 mn_Mo_against _ (gx_w_at (by decide) mo_h_43) rfl dd_Mo_put_63 (kk := fun v w hq => ?_)
      obtain ⟨d, rfl, hd1, hd2, rfl⟩ := hq
      refine gx_if_ne C 103 dd_Mo_put_66 (fun h66 => ?_) (fun h66 => ?_)
      · have hno : ∀ y, (am_ar a)[am_pl (pr_k f i o t) (am_ar a)]? = some y → ¬ y.1 = pr_k f i o t := fun y hy e => by
          rw [hx] at hy
          cases hy
          exact h66 (hd2.mpr e.symm)
        have hhas : am_has (pr_k f i o t) (am_ar a) = false := by
          unfold am_has
          rcases hxp : (am_ar a)[am_pl (pr_k f i o t) (am_ar a)]? with _ | y
          · rfl
          · exact beq_false_of_ne (hno y hxp)
        have hin : am_in (pr_k f i o t) x0 (am_ar a) = (am_ar a).take (am_pl (pr_k f i o t) (am_ar a)) ++ (pr_k f i o t, x0) :: (am_ar a).drop (am_pl (pr_k f i o t) (am_ar a)) := by
          unfold am_in
          rcases hxp : (am_ar a)[am_pl (pr_k f i o t) (am_ar a)]? with _ | y
          · rfl
          · show (if y.1 = pr_k f i o t then _ else _) = _
            rw [if_neg (hno y hxp)]
        skip
        · refine gx_aload_n C 2 dd_Mo_put_103 (kk := ?_)
          refine mo_get C fd_Mo_23 dd_Mo_put_104 (kk := ?_)
          refine gx_iload_n C 3 dd_Mo_put_107 (kk := ?_)
          refine mo_l48 C dd_Mo_put_108 (by omega) (kk := ?_)
          refine gx_topi _ hM.2.2.2.1 ?_
          refine gx_bipush (v := nI 64) C dd_Mo_put_109 (kk := ?_)
          refine gx_icmp_ne C 116 dd_Mo_put_111 (fun h111 => ?_) (fun h111 => ?_)
          · refine gx_iload C 1 dd_Mo_put_116 (kk := ?_)
            refine gx_istore C _ dd_Mo_put_118 (kk := ?_)
            rw [nI_eq (by omega) (by decide)] at h111
            have loop2 : ∀ m z F1 L1, z = am_pl (pr_k f i o t) (am_ar a) + m → z ≤ (am_ar a).length → F1 49 = mo_sh (F 49) (65 * s) z (am_ar a).length → F1 50 = mo_sh (F 50) (65 * s) z (am_ar a).length → F1 51 = mo_sh (F 51) (65 * s) z (am_ar a).length → F1 52 = mo_sh (F 52) (65 * s) z (am_ar a).length → L1 53 = mo_sh (L 53) (65 * s) z (am_ar a).length → (∀ k, k ≠ 49 → k ≠ 50 → k ≠ 51 → k ≠ 52 → F1 k = F k) → (∀ k, k ≠ 53 → L1 k = L k) → mo_fr s F L F1 L1 → gx_G K D 11 0 0 120 [(10, .int (nI (65 * s + z))), (8, .int (nI (65 * s + am_pl (pr_k f i o t) (am_ar a)))), (9, .int (nI (65 * s + (am_ar a).length))), (0, .ref (ad 43)), (1, .int (nI s)), (2, .int (nI f)), (3, .int (nI t)), (4, .int (nI i)), (5, .int (nI o)), (6, .long (lN x0))] [] (gx_w ad (mo_h dA ad h F1 L1 S)) (gx_Z K D dA 0 0 (fun v w => (am_rm (pr_k f i o t) (am_ar a) = true ∧ v = some (.int (nI 1)) ∧ ∃ F2 L2, w = (gx_w ad (mo_h dA ad h F2 L2 S)) ∧ mo_is F2 L2 s (am_n a, am_st a, am_en a, am_in (pr_k f i o t) x0 (am_ar a)) ∧ mo_fr s F L F2 L2) ∨ (am_rm (pr_k f i o t) (am_ar a) = false ∧ v = some (.int (nI 0)) ∧ w = (gx_w ad (mo_h dA ad h F L S))))) := by
              intro m
              induction m with
              | zero =>
                intro z F1 L1 hz hzl h49 h50 h51 h52 h53 hFk hLk hfr
                rw [show z = am_pl (pr_k f i o t) (am_ar a) by omega] at h49 h50 h51 h52 h53
                refine gx_iload C 0 dd_Mo_put_120 (kk := ?_)
                refine gx_iload C 1 dd_Mo_put_122 (kk := ?_)
                refine gx_icmp_le C 213 dd_Mo_put_124 (fun h124 => ?_) (fun h124 => absurd (nI_le (a := 65 * s + z) (b := 65 * s + am_pl (pr_k f i o t) (am_ar a)) (by omega) (by omega)) h124)
                refine gx_aload_n C 3 dd_Mo_put_213 (kk := ?_)
                refine mo_get C fd_Mo_26 dd_Mo_put_214 (kk := ?_)
                refine gx_iload C 1 dd_Mo_put_217 (kk := ?_)
                refine gx_iload_n C 5 dd_Mo_put_219 (kk := ?_)
                refine mo_s49 C dd_Mo_put_220 (by omega) (kk := fun F220 hF220 => ?_)
                refine gx_aload_n C 3 dd_Mo_put_221 (kk := ?_)
                refine mo_get C fd_Mo_29 dd_Mo_put_222 (kk := ?_)
                refine gx_iload C 1 dd_Mo_put_225 (kk := ?_)
                refine gx_iload_n C 6 dd_Mo_put_227 (kk := ?_)
                refine mo_s50 C dd_Mo_put_228 (by omega) (kk := fun F228 hF228 => ?_)
                refine gx_aload_n C 3 dd_Mo_put_229 (kk := ?_)
                refine mo_get C fd_Mo_32 dd_Mo_put_230 (kk := ?_)
                refine gx_iload C 1 dd_Mo_put_233 (kk := ?_)
                refine gx_iload C 7 dd_Mo_put_235 (kk := ?_)
                refine mo_s51 C dd_Mo_put_237 (by omega) (kk := fun F237 hF237 => ?_)
                refine gx_aload_n C 3 dd_Mo_put_238 (kk := ?_)
                refine mo_get C fd_Mo_35 dd_Mo_put_239 (kk := ?_)
                refine gx_iload C 1 dd_Mo_put_242 (kk := ?_)
                refine gx_iload C 8 dd_Mo_put_244 (kk := ?_)
                refine mo_s52 C dd_Mo_put_246 (by omega) (kk := fun F246 hF246 => ?_)
                refine gx_aload_n C 3 dd_Mo_put_247 (kk := ?_)
                refine mo_get C fd_Mo_38 dd_Mo_put_248 (kk := ?_)
                refine gx_iload C 1 dd_Mo_put_251 (kk := ?_)
                refine gx_lload C 9 dd_Mo_put_253 (kk := ?_)
                refine mo_s53 C dd_Mo_put_255 (by omega) (kk := fun L255 hL255 => ?_)
                refine gx_aload_n C 3 dd_Mo_put_256 (kk := ?_)
                refine mo_get C fd_Mo_23 dd_Mo_put_257 (kk := ?_)
                refine gx_iload_n C 4 dd_Mo_put_260 (kk := ?_)
                refine gx_dup2_11 C dd_Mo_put_261 (kk := ?_)
                refine mo_l48 C dd_Mo_put_262 (by omega) (kk := ?_)
                refine gx_topi (nI (am_ar a).length) ?_ ?_
                · rw [hF246, gm_un (by decide), hF237, gm_un (by decide), hF228, gm_un (by decide), hF220, gm_un (by decide), hFk 48 (by decide) (by decide) (by decide) (by decide)]
                  exact hM.2.2.2.1
                refine gx_iconst (v := nI 1) C dd_Mo_put_263 (kk := ?_)
                refine gx_iadd C dd_Mo_put_264 (kk := ?_)
                refine gx_topi _ (nI_add _ _) ?_
                refine mo_s48 C dd_Mo_put_265 (by omega) (kk := fun F265 hF265 => ?_)
                refine gx_iconst (v := nI 1) C dd_Mo_put_266 (kk := ?_)
                refine gx_zret C dd_Mo_put_267 (by first | rfl | exact fb_nar) ?_
                have hP := am_pl_le (pr_k f i o t) (am_ar a)
                refine Or.inl ⟨?_, rfl, F265, L255, rfl, ⟨?_, ?_, ?_, ?_, ?_, ?_⟩, ?_⟩
                · unfold am_rm
                  rw [decide_eq_true (show (am_ar a).length < 64 by omega), Bool.or_true]
                · rw [hF265, gm_un (by decide), hF246, gm_un (by decide), hF237, gm_un (by decide), hF228, gm_un (by decide), hF220, gm_un (by decide), hFk 44 (by decide) (by decide) (by decide) (by decide)]
                  exact hM.1
                · rw [hF265, gm_un (by decide), hF246, gm_un (by decide), hF237, gm_un (by decide), hF228, gm_un (by decide), hF220, gm_un (by decide), hFk 45 (by decide) (by decide) (by decide) (by decide), hL255, gm_un (by decide), hLk 46 (by decide)]
                  exact hM.2.1
                · intro q hq
                  rw [hL255, gm_un (by decide), hLk 47 (by decide)]
                  exact hM.2.2.1 q hq
                · rw [hF265, gm_us, pk_us]
                  show _ = nI (am_in (pr_k f i o t) x0 (am_ar a)).length
                  rw [hin, am_ins_len hP]
                · intro j y hy
                  have hy : (am_in (pr_k f i o t) x0 (am_ar a))[j]? = some y := hy
                  rw [hin, am_ins_at hP] at hy
                  have e49 : F265 49 = upd (mo_sh (F 49) (65 * s) (am_pl (pr_k f i o t) (am_ar a)) (am_ar a).length) (65 * s + am_pl (pr_k f i o t) (am_ar a)) (nI f) := by
                    rw [hF265, gm_un (by decide), hF246, gm_un (by decide), hF237, gm_un (by decide), hF228, gm_un (by decide), hF220, gm_us, h49]
                  have e50 : F265 50 = upd (mo_sh (F 50) (65 * s) (am_pl (pr_k f i o t) (am_ar a)) (am_ar a).length) (65 * s + am_pl (pr_k f i o t) (am_ar a)) (nI t) := by
                    rw [hF265, gm_un (by decide), hF246, gm_un (by decide), hF237, gm_un (by decide), hF228, gm_us, hF220, gm_un (by decide), h50]
                  have e51 : F265 51 = upd (mo_sh (F 51) (65 * s) (am_pl (pr_k f i o t) (am_ar a)) (am_ar a).length) (65 * s + am_pl (pr_k f i o t) (am_ar a)) (nI i) := by
                    rw [hF265, gm_un (by decide), hF246, gm_un (by decide), hF237, gm_us, hF228, gm_un (by decide), hF220, gm_un (by decide), h51]
                  have e52 : F265 52 = upd (mo_sh (F 52) (65 * s) (am_pl (pr_k f i o t) (am_ar a)) (am_ar a).length) (65 * s + am_pl (pr_k f i o t) (am_ar a)) (nI o) := by
                    rw [hF265, gm_un (by decide), hF246, gm_us, hF237, gm_un (by decide), hF228, gm_un (by decide), hF220, gm_un (by decide), h52]
                  have e53 : L255 53 = vp_updL (mo_sh (L 53) (65 * s) (am_pl (pr_k f i o t) (am_ar a)) (am_ar a).length) (65 * s + am_pl (pr_k f i o t) (am_ar a)) (lN x0) := by
                    rw [hL255, gm_us, h53]
                  unfold mo_a
                  rw [e49, e50, e51, e52, e53]
                  by_cases hj1 : j < am_pl (pr_k f i o t) (am_ar a)
                  · rw [if_pos hj1] at hy
                    rw [pk_un (by omega), pk_un (by omega), pk_un (by omega), pk_un (by omega), pk_uLn (by omega), mo_sh_lo (by omega), mo_sh_lo (by omega), mo_sh_lo (by omega), mo_sh_lo (by omega), mo_sh_lo (by omega)]
                    exact hM.2.2.2.2.1 j y hy
                  · rw [if_neg hj1] at hy
                    by_cases hj2 : j = am_pl (pr_k f i o t) (am_ar a)
                    · rw [if_pos hj2] at hy
                      cases hy
                      rw [hj2, pk_us, pk_us, pk_us, pk_us, pk_uLs]
                      have hkk : pr_k f i o t = f * 1024 + (8 * i + o) * 16 + t := rfl
                      exact ⟨congrArg nI (by show f = pr_k f i o t / 1024; omega), congrArg nI (by show t = pr_k f i o t % 16; omega), congrArg nI (by show i = pr_k f i o t / 128 % 8; omega), congrArg nI (by show o = pr_k f i o t / 16 % 8; omega), rfl⟩
                    · rw [if_neg hj2] at hy
                      have hjl := (List.getElem?_eq_some_iff.mp hy).1
                      rw [pk_un (by omega), pk_un (by omega), pk_un (by omega), pk_un (by omega), pk_uLn (by omega), mo_sh_hi (by omega) (by omega), mo_sh_hi (by omega) (by omega), mo_sh_hi (by omega) (by omega), mo_sh_hi (by omega) (by omega), mo_sh_hi (by omega) (by omega)]
                      exact hM.2.2.2.2.1 (j - 1) y hy
                · show (am_in (pr_k f i o t) x0 (am_ar a)).length ≤ 64
                  rw [hin, am_ins_len hP]
                  omega
                · exact mo_fr_tr hfr (mo_fr_tr (mo_fr_49 (by omega) hF220) (mo_fr_tr (mo_fr_50 (by omega) hF228) (mo_fr_tr (mo_fr_51 (by omega) hF237) (mo_fr_tr (mo_fr_52 (by omega) hF246) (mo_fr_tr (mo_fr_53 (by omega) hL255) (mo_fr_48 hF265))))))
              | succ m ih =>
                intro z F1 L1 hz hzl h49 h50 h51 h52 h53 hFk hLk hfr
                refine gx_iload C 0 dd_Mo_put_120 (kk := ?_)
                refine gx_iload C 1 dd_Mo_put_122 (kk := ?_)
                refine gx_icmp_le C 213 dd_Mo_put_124 (fun h124 => absurd h124 (nI_ge (by omega) (by omega))) (fun h124 => ?_)
                refine gx_aload_n C 3 dd_Mo_put_127 (kk := ?_)
                refine mo_get C fd_Mo_26 dd_Mo_put_128 (kk := ?_)
                refine gx_iload C 0 dd_Mo_put_131 (kk := ?_)
                refine gx_aload_n C 3 dd_Mo_put_133 (kk := ?_)
                refine mo_get C fd_Mo_26 dd_Mo_put_134 (kk := ?_)
                refine gx_iload C 0 dd_Mo_put_137 (kk := ?_)
                refine gx_iconst (v := nI 1) C dd_Mo_put_139 (kk := ?_)
                refine gx_isub C dd_Mo_put_140 (kk := ?_)
                refine gx_topi (nI (65 * s + z - 1)) (pk_sub (b := 1) (by omega)) ?_
                refine mo_l49 C dd_Mo_put_141 (by omega) (kk := ?_)
                refine mo_s49 C dd_Mo_put_142 (by omega) (kk := fun F142 hF142 => ?_)
                refine gx_aload_n C 3 dd_Mo_put_143 (kk := ?_)
                refine mo_get C fd_Mo_29 dd_Mo_put_144 (kk := ?_)
                refine gx_iload C 0 dd_Mo_put_147 (kk := ?_)
                refine gx_aload_n C 3 dd_Mo_put_149 (kk := ?_)
                refine mo_get C fd_Mo_29 dd_Mo_put_150 (kk := ?_)
                refine gx_iload C 0 dd_Mo_put_153 (kk := ?_)
                refine gx_iconst (v := nI 1) C dd_Mo_put_155 (kk := ?_)
                refine gx_isub C dd_Mo_put_156 (kk := ?_)
                refine gx_topi (nI (65 * s + z - 1)) (pk_sub (b := 1) (by omega)) ?_
                refine mo_l50 C dd_Mo_put_157 (by omega) (kk := ?_)
                refine mo_s50 C dd_Mo_put_158 (by omega) (kk := fun F158 hF158 => ?_)
                refine gx_aload_n C 3 dd_Mo_put_159 (kk := ?_)
                refine mo_get C fd_Mo_32 dd_Mo_put_160 (kk := ?_)
                refine gx_iload C 0 dd_Mo_put_163 (kk := ?_)
                refine gx_aload_n C 3 dd_Mo_put_165 (kk := ?_)
                refine mo_get C fd_Mo_32 dd_Mo_put_166 (kk := ?_)
                refine gx_iload C 0 dd_Mo_put_169 (kk := ?_)
                refine gx_iconst (v := nI 1) C dd_Mo_put_171 (kk := ?_)
                refine gx_isub C dd_Mo_put_172 (kk := ?_)
                refine gx_topi (nI (65 * s + z - 1)) (pk_sub (b := 1) (by omega)) ?_
                refine mo_l51 C dd_Mo_put_173 (by omega) (kk := ?_)
                refine mo_s51 C dd_Mo_put_174 (by omega) (kk := fun F174 hF174 => ?_)
                refine gx_aload_n C 3 dd_Mo_put_175 (kk := ?_)
                refine mo_get C fd_Mo_35 dd_Mo_put_176 (kk := ?_)
                refine gx_iload C 0 dd_Mo_put_179 (kk := ?_)
                refine gx_aload_n C 3 dd_Mo_put_181 (kk := ?_)
                refine mo_get C fd_Mo_35 dd_Mo_put_182 (kk := ?_)
                refine gx_iload C 0 dd_Mo_put_185 (kk := ?_)
                refine gx_iconst (v := nI 1) C dd_Mo_put_187 (kk := ?_)
                refine gx_isub C dd_Mo_put_188 (kk := ?_)
                refine gx_topi (nI (65 * s + z - 1)) (pk_sub (b := 1) (by omega)) ?_
                refine mo_l52 C dd_Mo_put_189 (by omega) (kk := ?_)
                refine mo_s52 C dd_Mo_put_190 (by omega) (kk := fun F190 hF190 => ?_)
                refine gx_aload_n C 3 dd_Mo_put_191 (kk := ?_)
                refine mo_get C fd_Mo_38 dd_Mo_put_192 (kk := ?_)
                refine gx_iload C 0 dd_Mo_put_195 (kk := ?_)
                refine gx_aload_n C 3 dd_Mo_put_197 (kk := ?_)
                refine mo_get C fd_Mo_38 dd_Mo_put_198 (kk := ?_)
                refine gx_iload C 0 dd_Mo_put_201 (kk := ?_)
                refine gx_iconst (v := nI 1) C dd_Mo_put_203 (kk := ?_)
                refine gx_isub C dd_Mo_put_204 (kk := ?_)
                refine gx_topi (nI (65 * s + z - 1)) (pk_sub (b := 1) (by omega)) ?_
                refine mo_l53 C dd_Mo_put_205 (by omega) (kk := ?_)
                refine mo_s53 C dd_Mo_put_206 (by omega) (kk := fun L206 hL206 => ?_)
                refine gx_iinc C 0 (nI (65 * s + (z - 1))) _ dd_Mo_put_207 (mo_dec (n := 65 * s + z) (m := 65 * s + (z - 1)) (by omega)) (kk := ?_)
                refine gx_goto C 120 dd_Mo_put_210 (kk := ?_)
                refine ih (z - 1) F190 L206 (by omega) (by omega) ?_ ?_ ?_ ?_ ?_ (fun k a1 a2 a3 a4 => by rw [hF190, gm_un a4, hF174, gm_un a3, hF158, gm_un a2, hF142, gm_un a1]; exact hFk k a1 a2 a3 a4) (fun k a1 => by rw [hL206, gm_un a1]; exact hLk k a1) (mo_fr_tr hfr (mo_fr_tr (mo_fr_49 (by omega) hF142) (mo_fr_tr (mo_fr_50 (by omega) hF158) (mo_fr_tr (mo_fr_51 (by omega) hF174) (mo_fr_tr (mo_fr_52 (by omega) hF190) (mo_fr_53 (by omega) hL206))))))
                · rw [hF190, gm_un (by decide), hF174, gm_un (by decide), hF158, gm_un (by decide), hF142, gm_us, h49]
                  exact mo_sh_s _ (by omega) (by omega)
                · rw [hF190, gm_un (by decide), hF174, gm_un (by decide), hF158, gm_us, hF142, gm_un (by decide), h50]
                  exact mo_sh_s _ (by omega) (by omega)
                · rw [hF190, gm_un (by decide), hF174, gm_us, hF158, gm_un (by decide), hF142, gm_un (by decide), h51]
                  exact mo_sh_s _ (by omega) (by omega)
                · rw [hF190, gm_us, hF174, gm_un (by decide), hF158, gm_un (by decide), hF142, gm_un (by decide), h52]
                  exact mo_sh_s _ (by omega) (by omega)
                · rw [hL206, gm_us, h53]
                  exact mo_sh_sL _ (by omega) (by omega)
            exact loop2 ((am_ar a).length - am_pl (pr_k f i o t) (am_ar a)) (am_ar a).length F L (by omega) (Nat.le_refl _) (mo_sh_0 _ _ _).symm (mo_sh_0 _ _ _).symm (mo_sh_0 _ _ _).symm (mo_sh_0 _ _ _).symm (mo_sh_0 _ _ _).symm (fun _ _ _ _ _ => rfl) (fun _ _ => rfl) mo_fr_rf
          · refine gx_iconst (v := nI 0) C dd_Mo_put_114 (kk := ?_)
            refine gx_zret C dd_Mo_put_115 (by first | rfl | exact fb_nar) ?_
            refine Or.inr ⟨?_, rfl, rfl⟩
            unfold am_rm
            rw [hhas, Bool.false_or]
            rw [nI_eq (by omega) (by decide)] at h111
            exact decide_eq_false (by omega)
      · refine gx_aload_n C 2 dd_Mo_put_69 (kk := ?_)
        refine mo_get C fd_Mo_38 dd_Mo_put_70 (kk := ?_)
        refine gx_iload C 0 dd_Mo_put_73 (kk := ?_)
        refine gx_lload C 8 dd_Mo_put_75 (kk := ?_)
        refine gx_aload_n C 2 dd_Mo_put_77 (kk := ?_)
        refine mo_get C fd_Mo_38 dd_Mo_put_78 (kk := ?_)
        refine gx_iload C 0 dd_Mo_put_81 (kk := ?_)
        refine mo_l53 C dd_Mo_put_83 (by omega) (kk := ?_)
        refine gx_topl _ (hM.2.2.2.2.1 _ x hx).2.2.2.2 ?_
        refine gx_lcmp C dd_Mo_put_84 (kk := ?_)
        refine gx_if_ge C 93 dd_Mo_put_85 (fun h85 => ?_) (fun h85 => ?_)
        · refine gx_aload_n C 2 dd_Mo_put_93 (kk := ?_)
          refine mo_get C fd_Mo_38 dd_Mo_put_94 (kk := ?_)
          refine gx_iload C 0 dd_Mo_put_97 (kk := ?_)
          refine mo_l53 C dd_Mo_put_99 (by omega) (kk := ?_)
          refine gx_topl _ (hM.2.2.2.2.1 _ x hx).2.2.2.2 ?_
          refine mo_s53 C dd_Mo_put_100 (by omega) (kk := fun L100 hL100 => ?_)
          refine gx_iconst (v := nI 1) C dd_Mo_put_101 (kk := ?_)
          refine gx_zret C dd_Mo_put_102 (by first | rfl | exact fb_nar) ?_
          rw [lc_ge, pk_lLE (by omega) (by omega)] at h85
          have hin : am_in (pr_k f i o t) x0 (am_ar a) = (am_ar a).set (am_pl (pr_k f i o t) (am_ar a)) (pr_k f i o t, if x0 < x.2 then x0 else x.2) := by
            unfold am_in
            rw [hx]
            show (if x.1 = pr_k f i o t then _ else _) = _
            rw [if_pos (hd2.mp h66).symm]
          have hkx : pr_k f i o t = x.1 := hd2.mp h66
          refine Or.inl ⟨?_, rfl, F, L100, rfl, ⟨hM.1, ?_, ?_, ?_, ?_, ?_⟩, mo_fr_53 (by omega) hL100⟩
          · unfold am_rm am_has
            rw [hx]
            show ((x.1 == pr_k f i o t) || _) = true
            rw [hkx, beq_self_eq_true]
            rfl
          · rw [hL100, gm_un (by decide)]
            exact hM.2.1
          · intro q hq
            rw [hL100, gm_un (by decide)]
            exact hM.2.2.1 q hq
          · show F 48 s = nI (am_in (pr_k f i o t) x0 (am_ar a)).length
            rw [hin, List.length_set]
            exact hM.2.2.2.1
          · intro j y hy
            have hy : (am_in (pr_k f i o t) x0 (am_ar a))[j]? = some y := hy
            rw [hin, List.getElem?_set] at hy
            unfold mo_a
            rw [hL100, gm_us]
            by_cases hj : am_pl (pr_k f i o t) (am_ar a) = j
            · rw [if_pos hj, if_pos (by omega)] at hy
              cases hy
              rw [← hj, pk_uLs]
              obtain ⟨g1, g2, g3, g4, g5⟩ := hM.2.2.2.2.1 _ x hx
              exact ⟨g1.trans (congrArg (fun k => nI (k / 1024)) hkx.symm), g2.trans (congrArg (fun k => nI (k % 16)) hkx.symm), g3.trans (congrArg (fun k => nI (k / 128 % 8)) hkx.symm), g4.trans (congrArg (fun k => nI (k / 16 % 8)) hkx.symm), by rw [if_neg (show ¬ x0 < x.2 by omega)]⟩
            · rw [if_neg hj] at hy
              rw [pk_uLn (by omega)]
              exact hM.2.2.2.2.1 j y hy
          · show (am_in (pr_k f i o t) x0 (am_ar a)).length ≤ 64
            rw [hin, List.length_set]
            exact hM.2.2.2.2.2
        · refine gx_lload C 8 dd_Mo_put_88 (kk := ?_)
          refine gx_goto C 100 dd_Mo_put_90 (kk := ?_)
          refine mo_s53 C dd_Mo_put_100 (by omega) (kk := fun L100 hL100 => ?_)
          refine gx_iconst (v := nI 1) C dd_Mo_put_101 (kk := ?_)
          refine gx_zret C dd_Mo_put_102 (by first | rfl | exact fb_nar) ?_
          rw [lc_ge, pk_lLE (by omega) (by omega)] at h85
          have hin : am_in (pr_k f i o t) x0 (am_ar a) = (am_ar a).set (am_pl (pr_k f i o t) (am_ar a)) (pr_k f i o t, if x0 < x.2 then x0 else x.2) := by
            unfold am_in
            rw [hx]
            show (if x.1 = pr_k f i o t then _ else _) = _
            rw [if_pos (hd2.mp h66).symm]
          have hkx : pr_k f i o t = x.1 := hd2.mp h66
          refine Or.inl ⟨?_, rfl, F, L100, rfl, ⟨hM.1, ?_, ?_, ?_, ?_, ?_⟩, mo_fr_53 (by omega) hL100⟩
          · unfold am_rm am_has
            rw [hx]
            show ((x.1 == pr_k f i o t) || _) = true
            rw [hkx, beq_self_eq_true]
            rfl
          · rw [hL100, gm_un (by decide)]
            exact hM.2.1
          · intro q hq
            rw [hL100, gm_un (by decide)]
            exact hM.2.2.1 q hq
          · show F 48 s = nI (am_in (pr_k f i o t) x0 (am_ar a)).length
            rw [hin, List.length_set]
            exact hM.2.2.2.1
          · intro j y hy
            have hy : (am_in (pr_k f i o t) x0 (am_ar a))[j]? = some y := hy
            rw [hin, List.getElem?_set] at hy
            unfold mo_a
            rw [hL100, gm_us]
            by_cases hj : am_pl (pr_k f i o t) (am_ar a) = j
            · rw [if_pos hj, if_pos (by omega)] at hy
              cases hy
              rw [← hj, pk_uLs]
              obtain ⟨g1, g2, g3, g4, g5⟩ := hM.2.2.2.2.1 _ x hx
              exact ⟨g1.trans (congrArg (fun k => nI (k / 1024)) hkx.symm), g2.trans (congrArg (fun k => nI (k % 16)) hkx.symm), g3.trans (congrArg (fun k => nI (k / 128 % 8)) hkx.symm), g4.trans (congrArg (fun k => nI (k / 16 % 8)) hkx.symm), by rw [if_pos (show x0 < x.2 by omega)]⟩
            · rw [if_neg hj] at hy
              rw [pk_uLn (by omega)]
              exact hM.2.2.2.2.1 j y hy
          · show (am_in (pr_k f i o t) x0 (am_ar a)).length ≤ 64
            rw [hin, List.length_set]
            exact hM.2.2.2.2.2
  have loop1 : ∀ m j, j + m = (am_ar a).length → j ≤ am_pl (pr_k f i o t) (am_ar a) → gx_G K D 11 0 0 19 [(8, .int (nI (65 * s + j))), (9, .int (nI (65 * s + (am_ar a).length))), (0, .ref (ad 43)), (1, .int (nI s)), (2, .int (nI f)), (3, .int (nI t)), (4, .int (nI i)), (5, .int (nI o)), (6, .long (lN x0))] [] (gx_w ad (mo_h dA ad h F L S)) (gx_Z K D dA 0 0 (fun v w => (am_rm (pr_k f i o t) (am_ar a) = true ∧ v = some (.int (nI 1)) ∧ ∃ F2 L2, w = (gx_w ad (mo_h dA ad h F2 L2 S)) ∧ mo_is F2 L2 s (am_n a, am_st a, am_en a, am_in (pr_k f i o t) x0 (am_ar a)) ∧ mo_fr s F L F2 L2) ∨ (am_rm (pr_k f i o t) (am_ar a) = false ∧ v = some (.int (nI 0)) ∧ w = (gx_w ad (mo_h dA ad h F L S))))) := by
    intro m
    induction m with
    | zero =>
      intro j hj hjp0
      refine gx_iload C 0 dd_Mo_put_19 (kk := ?_)
      refine gx_iload C 1 dd_Mo_put_21 (kk := ?_)
      refine gx_icmp_ge C 47 dd_Mo_put_23 (fun h23 => ?_) (fun h23 => absurd (nI_le (a := 65 * s + (am_ar a).length) (b := 65 * s + j) (by omega) (by omega)) h23)
      rw [show j = am_pl (pr_k f i o t) (am_ar a) by omega]
      exact place
    | succ m ih =>
      intro j hj hjp0
      refine gx_iload C 0 dd_Mo_put_19 (kk := ?_)
      refine gx_iload C 1 dd_Mo_put_21 (kk := ?_)
      refine gx_icmp_ge C 47 dd_Mo_put_23 (fun h23 => ?_) (fun h23 => ?_)
      · rw [nI_leI (by omega) (by omega)] at h23
        rw [show j = am_pl (pr_k f i o t) (am_ar a) by omega]
        exact place
      · rw [nI_leI (by omega) (by omega)] at h23
        obtain ⟨x, hx⟩ : ∃ x, (am_ar a)[j]? = some x := ⟨_, List.getElem?_eq_getElem (by omega)⟩
        refine gx_aload_n C 2 dd_Mo_put_26 (kk := ?_)
        refine gx_iload C 0 dd_Mo_put_27 (kk := ?_)
        refine gx_iload_n C 4 dd_Mo_put_29 (kk := ?_)
        refine gx_iload_n C 5 dd_Mo_put_30 (kk := ?_)
        refine gx_iload C 6 dd_Mo_put_31 (kk := ?_)
        refine gx_iload C 7 dd_Mo_put_33 (kk := ?_)
        refine gx_callV C (ct_Mo_against (gx_l K) D dA ad h F L S (k := 65 * s + j) (f := f) (t := t) (i := i) (o := o) (x := x) (by omega) (hM.2.2.2.2.1 _ x hx) (hkb x (List.mem_of_getElem? hx)) hf ht hi ho) me_Mo_against ml_Mo_95 mn_Mo_against _ (gx_w_at (by decide) mo_h_43) rfl dd_Mo_put_35 (kk := fun v w hq => ?_)
        obtain ⟨d, rfl, hd1, hd2, rfl⟩ := hq
        refine gx_if_le C 47 dd_Mo_put_38 (fun h38 => ?_) (fun h38 => ?_)
        · rw [show j = am_pl (pr_k f i o t) (am_ar a) by
            rcases Nat.lt_or_ge j (am_pl (pr_k f i o t) (am_ar a)) with hc | hc
            · have := am_pl_lo _ _ _ _ hc hx
              have := hd1.mp h38
              omega
            · omega]
          exact place
        · have hjp : j < am_pl (pr_k f i o t) (am_ar a) := by
            rcases Nat.lt_or_ge j (am_pl (pr_k f i o t) (am_ar a)) with hc | hc
            · exact hc
            · have := am_pl_hi _ _ _ _ hs2 hc hx
              exact absurd (hd1.mpr this) h38
          refine gx_iinc C 0 (nI (65 * s + (j + 1))) _ dd_Mo_put_41 (nI_1 _) (kk := ?_)
          refine gx_goto C 19 dd_Mo_put_44 (kk := ?_)
          exact ih (j + 1) (by omega) (by omega)
  refine gx_bipush (v := nI 65) C dd_Mo_put_0 (kk := ?_)
  refine gx_iload_n C 1 dd_Mo_put_2 (kk := ?_)
  refine gx_imul C dd_Mo_put_3 (kk := ?_)
  refine gx_topi _ (pk_mul _ _) ?_
  refine gx_istore C _ dd_Mo_put_4 (kk := ?_)
  refine gx_bipush (v := nI 65) C dd_Mo_put_6 (kk := ?_)
  refine gx_iload_n C 2 dd_Mo_put_8 (kk := ?_)
  refine gx_imul C dd_Mo_put_9 (kk := ?_)
  refine gx_topi _ (pk_mul _ _) ?_
  refine gx_aload_n C 1 dd_Mo_put_10 (kk := ?_)
  refine mo_get C fd_Mo_23 dd_Mo_put_11 (kk := ?_)
  refine gx_iload_n C 2 dd_Mo_put_14 (kk := ?_)
  refine mo_l48 C dd_Mo_put_15 (by omega) (kk := ?_)
  refine gx_topi _ hM.2.2.2.1 ?_
  refine gx_iadd C dd_Mo_put_16 (kk := ?_)
  refine gx_topi _ (nI_add _ _) ?_
  refine gx_istore C _ dd_Mo_put_17 (kk := ?_)
  refine gx_loc [1, 0, 2, 3, 4, 5, 6, 7, 8] ?_
  exact loop1 (am_ar a).length 0 (by omega) (Nat.zero_le _)
