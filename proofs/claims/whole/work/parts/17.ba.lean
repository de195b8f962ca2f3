theorem dd_Ba_leastEnd_0 : decode cc_Ba_leastEnd 0 = .ok (.ldc2_w 36, 3) := by decide +kernel
theorem dd_Ba_leastEnd_3 : decode cc_Ba_leastEnd 3 = .ok (.lstore_n 2, 1) := by decide +kernel
theorem dd_Ba_leastEnd_4 : decode cc_Ba_leastEnd 4 = .ok (.iconst 0, 1) := by decide +kernel
theorem dd_Ba_leastEnd_5 : decode cc_Ba_leastEnd 5 = .ok (.istore 4, 2) := by decide +kernel
theorem dd_Ba_leastEnd_7 : decode cc_Ba_leastEnd 7 = .ok (.iload 4, 2) := by decide +kernel
theorem dd_Ba_leastEnd_9 : decode cc_Ba_leastEnd 9 = .ok (.aload_n 1, 1) := by decide +kernel
theorem dd_Ba_leastEnd_10 : decode cc_Ba_leastEnd 10 = .ok (.getfield 15, 3) := by decide +kernel
theorem dd_Ba_leastEnd_13 : decode cc_Ba_leastEnd 13 = .ok (.if_icmp .ge 28, 3) := by decide +kernel
theorem dd_Ba_leastEnd_16 : decode cc_Ba_leastEnd 16 = .ok (.lload_n 2, 1) := by decide +kernel
theorem dd_Ba_leastEnd_17 : decode cc_Ba_leastEnd 17 = .ok (.aload_n 0, 1) := by decide +kernel
theorem dd_Ba_leastEnd_18 : decode cc_Ba_leastEnd 18 = .ok (.getfield 9, 3) := by decide +kernel
theorem dd_Ba_leastEnd_21 : decode cc_Ba_leastEnd 21 = .ok (.iload 4, 2) := by decide +kernel
theorem dd_Ba_leastEnd_23 : decode cc_Ba_leastEnd 23 = .ok (.laload, 1) := by decide +kernel
theorem dd_Ba_leastEnd_24 : decode cc_Ba_leastEnd 24 = .ok (.aload_n 1, 1) := by decide +kernel
theorem dd_Ba_leastEnd_25 : decode cc_Ba_leastEnd 25 = .ok (.iload 4, 2) := by decide +kernel
theorem dd_Ba_leastEnd_27 : decode cc_Ba_leastEnd 27 = .ok (.invokevirtual 59, 3) := by decide +kernel
theorem dd_Ba_leastEnd_30 : decode cc_Ba_leastEnd 30 = .ok (.ladd, 1) := by decide +kernel
theorem dd_Ba_leastEnd_31 : decode cc_Ba_leastEnd 31 = .ok (.invokestatic 63, 3) := by decide +kernel
theorem dd_Ba_leastEnd_34 : decode cc_Ba_leastEnd 34 = .ok (.lstore_n 2, 1) := by decide +kernel
theorem dd_Ba_leastEnd_35 : decode cc_Ba_leastEnd 35 = .ok (.iinc 4 1, 3) := by decide +kernel
theorem dd_Ba_leastEnd_38 : decode cc_Ba_leastEnd 38 = .ok (.goto (-31), 3) := by decide +kernel
theorem dd_Ba_leastEnd_41 : decode cc_Ba_leastEnd 41 = .ok (.lload_n 2, 1) := by decide +kernel
theorem dd_Ba_leastEnd_42 : decode cc_Ba_leastEnd 42 = .ok (.lreturn, 1) := by decide +kernel
theorem dd_Ba_bringOthers_0 : decode cc_Ba_bringOthers 0 = .ok (.iconst 0, 1) := by decide +kernel
theorem dd_Ba_bringOthers_1 : decode cc_Ba_bringOthers 1 = .ok (.istore 4, 2) := by decide +kernel
theorem dd_Ba_bringOthers_3 : decode cc_Ba_bringOthers 3 = .ok (.iload 4, 2) := by decide +kernel
theorem dd_Ba_bringOthers_5 : decode cc_Ba_bringOthers 5 = .ok (.aload_n 1, 1) := by decide +kernel
theorem dd_Ba_bringOthers_6 : decode cc_Ba_bringOthers 6 = .ok (.getfield 69, 3) := by decide +kernel
theorem dd_Ba_bringOthers_9 : decode cc_Ba_bringOthers 9 = .ok (.if_icmp .ge 91, 3) := by decide +kernel
theorem dd_Ba_bringOthers_12 : decode cc_Ba_bringOthers 12 = .ok (.aload_n 1, 1) := by decide +kernel
theorem dd_Ba_bringOthers_13 : decode cc_Ba_bringOthers 13 = .ok (.getfield 72, 3) := by decide +kernel
theorem dd_Ba_bringOthers_16 : decode cc_Ba_bringOthers 16 = .ok (.iload 4, 2) := by decide +kernel
theorem dd_Ba_bringOthers_18 : decode cc_Ba_bringOthers 18 = .ok (.iaload, 1) := by decide +kernel
theorem dd_Ba_bringOthers_19 : decode cc_Ba_bringOthers 19 = .ok (.invokestatic 76, 3) := by decide +kernel
theorem dd_Ba_bringOthers_22 : decode cc_Ba_bringOthers 22 = .ok (.istore 5, 2) := by decide +kernel
theorem dd_Ba_bringOthers_24 : decode cc_Ba_bringOthers 24 = .ok (.aload_n 0, 1) := by decide +kernel
theorem dd_Ba_bringOthers_25 : decode cc_Ba_bringOthers 25 = .ok (.getfield 9, 3) := by decide +kernel
theorem dd_Ba_bringOthers_28 : decode cc_Ba_bringOthers 28 = .ok (.aload_n 1, 1) := by decide +kernel
theorem dd_Ba_bringOthers_29 : decode cc_Ba_bringOthers 29 = .ok (.getfield 72, 3) := by decide +kernel
theorem dd_Ba_bringOthers_32 : decode cc_Ba_bringOthers 32 = .ok (.iload 4, 2) := by decide +kernel
theorem dd_Ba_bringOthers_34 : decode cc_Ba_bringOthers 34 = .ok (.iaload, 1) := by decide +kernel
theorem dd_Ba_bringOthers_35 : decode cc_Ba_bringOthers 35 = .ok (.invokestatic 80, 3) := by decide +kernel
theorem dd_Ba_bringOthers_38 : decode cc_Ba_bringOthers 38 = .ok (.laload, 1) := by decide +kernel
theorem dd_Ba_bringOthers_39 : decode cc_Ba_bringOthers 39 = .ok (.lstore 6, 2) := by decide +kernel
theorem dd_Ba_bringOthers_41 : decode cc_Ba_bringOthers 41 = .ok (.iload 5, 2) := by decide +kernel
theorem dd_Ba_bringOthers_43 : decode cc_Ba_bringOthers 43 = .ok (.ifCond .eq 51, 3) := by decide +kernel
theorem dd_Ba_bringOthers_46 : decode cc_Ba_bringOthers 46 = .ok (.lload 6, 2) := by decide +kernel
theorem dd_Ba_bringOthers_48 : decode cc_Ba_bringOthers 48 = .ok (.ldc2_w 36, 3) := by decide +kernel
theorem dd_Ba_bringOthers_51 : decode cc_Ba_bringOthers 51 = .ok (.lcmp, 1) := by decide +kernel
theorem dd_Ba_bringOthers_52 : decode cc_Ba_bringOthers 52 = .ok (.ifCond .ge 42, 3) := by decide +kernel
theorem dd_Ba_bringOthers_55 : decode cc_Ba_bringOthers 55 = .ok (.iload_n 2, 1) := by decide +kernel
theorem dd_Ba_bringOthers_56 : decode cc_Ba_bringOthers 56 = .ok (.iload 5, 2) := by decide +kernel
theorem dd_Ba_bringOthers_58 : decode cc_Ba_bringOthers 58 = .ok (.aload_n 1, 1) := by decide +kernel
theorem dd_Ba_bringOthers_59 : decode cc_Ba_bringOthers 59 = .ok (.getfield 72, 3) := by decide +kernel
theorem dd_Ba_bringOthers_62 : decode cc_Ba_bringOthers 62 = .ok (.iload 4, 2) := by decide +kernel
theorem dd_Ba_bringOthers_64 : decode cc_Ba_bringOthers 64 = .ok (.iaload, 1) := by decide +kernel
theorem dd_Ba_bringOthers_65 : decode cc_Ba_bringOthers 65 = .ok (.invokestatic 83, 3) := by decide +kernel
theorem dd_Ba_bringOthers_68 : decode cc_Ba_bringOthers 68 = .ok (.invokestatic 86, 3) := by decide +kernel
theorem dd_Ba_bringOthers_71 : decode cc_Ba_bringOthers 71 = .ok (.istore 8, 2) := by decide +kernel
theorem dd_Ba_bringOthers_73 : decode cc_Ba_bringOthers 73 = .ok (.aload_n 3, 1) := by decide +kernel
theorem dd_Ba_bringOthers_74 : decode cc_Ba_bringOthers 74 = .ok (.iload 8, 2) := by decide +kernel
theorem dd_Ba_bringOthers_76 : decode cc_Ba_bringOthers 76 = .ok (.lload 6, 2) := by decide +kernel
theorem dd_Ba_bringOthers_78 : decode cc_Ba_bringOthers 78 = .ok (.aload_n 1, 1) := by decide +kernel
theorem dd_Ba_bringOthers_79 : decode cc_Ba_bringOthers 79 = .ok (.getfield 90, 3) := by decide +kernel
theorem dd_Ba_bringOthers_82 : decode cc_Ba_bringOthers 82 = .ok (.iload 4, 2) := by decide +kernel
theorem dd_Ba_bringOthers_84 : decode cc_Ba_bringOthers 84 = .ok (.laload, 1) := by decide +kernel
theorem dd_Ba_bringOthers_85 : decode cc_Ba_bringOthers 85 = .ok (.ladd, 1) := by decide +kernel
theorem dd_Ba_bringOthers_86 : decode cc_Ba_bringOthers 86 = .ok (.invokevirtual 93, 3) := by decide +kernel
theorem dd_Ba_bringOthers_89 : decode cc_Ba_bringOthers 89 = .ok (.ifCond .ne 5, 3) := by decide +kernel
theorem dd_Ba_bringOthers_92 : decode cc_Ba_bringOthers 92 = .ok (.iconst 0, 1) := by decide +kernel
theorem dd_Ba_bringOthers_93 : decode cc_Ba_bringOthers 93 = .ok (.ireturn, 1) := by decide +kernel
theorem dd_Ba_bringOthers_94 : decode cc_Ba_bringOthers 94 = .ok (.iinc 4 1, 3) := by decide +kernel
theorem dd_Ba_bringOthers_97 : decode cc_Ba_bringOthers 97 = .ok (.goto (-94), 3) := by decide +kernel
theorem dd_Ba_bringOthers_100 : decode cc_Ba_bringOthers 100 = .ok (.iconst 1, 1) := by decide +kernel
theorem dd_Ba_bringOthers_101 : decode cc_Ba_bringOthers 101 = .ok (.ireturn, 1) := by decide +kernel
theorem dd_Ba_build_0 : decode cc_Ba_build 0 = .ok (.aload_n 2, 1) := by decide +kernel
theorem dd_Ba_build_1 : decode cc_Ba_build 1 = .ok (.aload_n 1, 1) := by decide +kernel
theorem dd_Ba_build_2 : decode cc_Ba_build 2 = .ok (.getfield 15, 3) := by decide +kernel
theorem dd_Ba_build_5 : decode cc_Ba_build 5 = .ok (.invokevirtual 21, 3) := by decide +kernel
theorem dd_Ba_build_8 : decode cc_Ba_build 8 = .ok (.aload_n 2, 1) := by decide +kernel
theorem dd_Ba_build_9 : decode cc_Ba_build 9 = .ok (.aload_n 1, 1) := by decide +kernel
theorem dd_Ba_build_10 : decode cc_Ba_build 10 = .ok (.getfield 25, 3) := by decide +kernel
theorem dd_Ba_build_13 : decode cc_Ba_build 13 = .ok (.aload_n 1, 1) := by decide +kernel
theorem dd_Ba_build_14 : decode cc_Ba_build 14 = .ok (.getfield 28, 3) := by decide +kernel
theorem dd_Ba_build_17 : decode cc_Ba_build 17 = .ok (.invokevirtual 32, 3) := by decide +kernel
theorem dd_Ba_build_20 : decode cc_Ba_build 20 = .ok (.iconst 1, 1) := by decide +kernel
theorem dd_Ba_build_21 : decode cc_Ba_build 21 = .ok (.istore_n 3, 1) := by decide +kernel
theorem dd_Ba_build_22 : decode cc_Ba_build 22 = .ok (.iconst 0, 1) := by decide +kernel
theorem dd_Ba_build_23 : decode cc_Ba_build 23 = .ok (.istore 4, 2) := by decide +kernel
theorem dd_Ba_build_25 : decode cc_Ba_build 25 = .ok (.iload 4, 2) := by decide +kernel
theorem dd_Ba_build_27 : decode cc_Ba_build 27 = .ok (.aload_n 1, 1) := by decide +kernel
theorem dd_Ba_build_28 : decode cc_Ba_build 28 = .ok (.getfield 15, 3) := by decide +kernel
theorem dd_Ba_build_31 : decode cc_Ba_build 31 = .ok (.if_icmp .ge 60, 3) := by decide +kernel
theorem dd_Ba_build_34 : decode cc_Ba_build 34 = .ok (.iload_n 3, 1) := by decide +kernel
theorem dd_Ba_build_35 : decode cc_Ba_build 35 = .ok (.ifCond .eq 56, 3) := by decide +kernel
theorem dd_Ba_build_38 : decode cc_Ba_build 38 = .ok (.aload_n 0, 1) := by decide +kernel
theorem dd_Ba_build_39 : decode cc_Ba_build 39 = .ok (.getfield 9, 3) := by decide +kernel
theorem dd_Ba_build_42 : decode cc_Ba_build 42 = .ok (.ldc2_w 36, 3) := by decide +kernel
theorem dd_Ba_build_45 : decode cc_Ba_build 45 = .ok (.invokestatic 38, 3) := by decide +kernel
theorem dd_Ba_build_48 : decode cc_Ba_build 48 = .ok (.aload_n 0, 1) := by decide +kernel
theorem dd_Ba_build_49 : decode cc_Ba_build 49 = .ok (.getfield 9, 3) := by decide +kernel
theorem dd_Ba_build_52 : decode cc_Ba_build 52 = .ok (.iload 4, 2) := by decide +kernel
theorem dd_Ba_build_54 : decode cc_Ba_build 54 = .ok (.lconst 0, 1) := by decide +kernel
theorem dd_Ba_build_55 : decode cc_Ba_build 55 = .ok (.lastore, 1) := by decide +kernel
theorem dd_Ba_build_56 : decode cc_Ba_build 56 = .ok (.aload_n 1, 1) := by decide +kernel
theorem dd_Ba_build_57 : decode cc_Ba_build 57 = .ok (.aload_n 0, 1) := by decide +kernel
theorem dd_Ba_build_58 : decode cc_Ba_build 58 = .ok (.getfield 9, 3) := by decide +kernel
theorem dd_Ba_build_61 : decode cc_Ba_build 61 = .ok (.iconst 0, 1) := by decide +kernel
theorem dd_Ba_build_62 : decode cc_Ba_build 62 = .ok (.invokevirtual 44, 3) := by decide +kernel
theorem dd_Ba_build_65 : decode cc_Ba_build 65 = .ok (.aload_n 2, 1) := by decide +kernel
theorem dd_Ba_build_66 : decode cc_Ba_build 66 = .ok (.iload 4, 2) := by decide +kernel
theorem dd_Ba_build_68 : decode cc_Ba_build 68 = .ok (.aload_n 0, 1) := by decide +kernel
theorem dd_Ba_build_69 : decode cc_Ba_build 69 = .ok (.aload_n 1, 1) := by decide +kernel
theorem dd_Ba_build_70 : decode cc_Ba_build 70 = .ok (.invokevirtual 48, 3) := by decide +kernel
theorem dd_Ba_build_73 : decode cc_Ba_build 73 = .ok (.invokevirtual 52, 3) := by decide +kernel
theorem dd_Ba_build_76 : decode cc_Ba_build 76 = .ok (.aload_n 0, 1) := by decide +kernel
theorem dd_Ba_build_77 : decode cc_Ba_build 77 = .ok (.aload_n 1, 1) := by decide +kernel
theorem dd_Ba_build_78 : decode cc_Ba_build 78 = .ok (.iload 4, 2) := by decide +kernel
theorem dd_Ba_build_80 : decode cc_Ba_build 80 = .ok (.aload_n 2, 1) := by decide +kernel
theorem dd_Ba_build_81 : decode cc_Ba_build 81 = .ok (.invokevirtual 55, 3) := by decide +kernel
theorem dd_Ba_build_84 : decode cc_Ba_build 84 = .ok (.istore_n 3, 1) := by decide +kernel
theorem dd_Ba_build_85 : decode cc_Ba_build 85 = .ok (.iinc 4 1, 3) := by decide +kernel
theorem dd_Ba_build_88 : decode cc_Ba_build 88 = .ok (.goto (-63), 3) := by decide +kernel
theorem dd_Ba_build_91 : decode cc_Ba_build 91 = .ok (.iload_n 3, 1) := by decide +kernel
theorem dd_Ba_build_92 : decode cc_Ba_build 92 = .ok (.ireturn, 1) := by decide +kernel
/-! BARING -/
def om (a b : Option Nat) : Option Nat := if ls_lt b a = true then b else a
def ba_le (v : ls_V) (en : Nat → Option Nat) : Nat → Option Nat
  | 0 => none
  | k + 1 => om (ba_le v en k) (co_oa (v k) (en k))
theorem om_f {x y z : Option Nat} (hx : ∀ a, x = some a → a < 2 ^ 59) (hy : ∀ a, y = some a → a < 2 ^ 59) (hz : ∀ a, z = some a → a < 2 ^ 60) : (if am_f x + am_f y < am_f z then am_f x + am_f y else am_f z) = am_f (om z (co_oa x y)) := by
  rw [am_f_n x, am_f_n y, lN_add, am_f_n z]
  have hzn : am_fn z < 2 ^ 63 := by
    cases z with
    | none => decide
    | some a => have := hz a rfl; show a < 2 ^ 63; omega
  have hzm : am_fn z ≤ 1152921504606846976 := by
    cases z with
    | none => decide
    | some a => have := hz a rfl; show a ≤ 1152921504606846976; omega
  unfold om
  cases x with
  | none =>
    have hn : ¬ lN (am_fn none + am_fn y) < lN (am_fn z) := by
      have hy2 : am_fn y < 2 ^ 61 := by
        cases y with
        | none => decide
        | some b => have := hy b rfl; show b < 2 ^ 61; omega
      rw [pk_lLT (by show 1152921504606846976 + am_fn y < 2 ^ 63; omega) hzn]
      show ¬ 1152921504606846976 + am_fn y < am_fn z
      omega
    rw [if_neg hn, ← am_f_n z]
    rfl
  | some a =>
    have ha := hx a rfl
    cases y with
    | none =>
      have hn : ¬ lN (am_fn (some a) + am_fn none) < lN (am_fn z) := by
        rw [pk_lLT (by show a + 1152921504606846976 < 2 ^ 63; omega) hzn]
        show ¬ a + 1152921504606846976 < am_fn z
        omega
      rw [if_neg hn, ← am_f_n z]
      rfl
    | some b =>
      have hb := hy b rfl
      show (if lN (a + b) < lN (am_fn z) then lN (a + b) else lN (am_fn z)) = am_f (if ls_lt (some (a + b)) z = true then some (a + b) else z)
      cases z with
      | none =>
        rw [if_pos (by rw [pk_lLT (by omega) hzn]; show a + b < 1152921504606846976; omega)]
        rfl
      | some c =>
        have hc := hz c rfl
        by_cases h : a + b < c
        · rw [if_pos (by rw [pk_lLT (by omega) hzn]; exact h), if_pos (by simp [ls_lt, h])]
          rfl
        · rw [if_neg (by rw [pk_lLT (by omega) hzn]; exact h), if_neg (by simp [ls_lt, h])]
          rfl
theorem om_b {x y : Option Nat} {B : Nat} (hx : ∀ a, x = some a → a < B) (hy : ∀ a, y = some a → a < B) : ∀ a, om x y = some a → a < B := by
  intro a ha
  unfold om at ha
  split at ha
  · exact hy a ha
  · exact hx a ha
theorem ba_le_b {v : ls_V} {en : Nat → Option Nat} {B : Nat} (hv : sp_b B v) (he : ∀ q e, en q = some e → e < B) : ∀ n a, ba_le v en n = some a → a < 2 * B
  | 0, a, h => by cases h
  | n + 1, a, h => om_b (ba_le_b hv he n) (co_oa_b (fun a => hv n a) (fun a => he n a)) a h
/-- arcs brought one by one; none where the room ends -/
def mk_run : List (Nat × Nat) → List (Nat × Nat) → Option (List (Nat × Nat))
  | [], l => some l
  | x :: t, l => if am_rm x.1 l = true then mk_run t (am_in x.1 x.2 l) else none
theorem mk_run_y {x : Nat × Nat} {t l : List (Nat × Nat)} (h : am_rm x.1 l = true) : mk_run (x :: t) l = mk_run t (am_in x.1 x.2 l) := if_pos h
theorem mk_run_n {x : Nat × Nat} {t l : List (Nat × Nat)} (h : am_rm x.1 l = false) : mk_run (x :: t) l = none := if_neg (by rw [h]; decide)
def ba_i (v : ls_V) (p : Nat) (x : Nat × Nat) : List (Nat × Nat) := if x.1 / 16 % 64 = 0 then [] else match v (x.1 / 1024) with
  | none => []
  | some d => [(p * 1024 + x.1 / 16 % 64 * 16 + x.1 % 16, d + x.2)]
def ba_it (l : List (Nat × Nat)) (v : ls_V) (p : Nat) : List (Nat × Nat) := l.flatMap (ba_i v p)
def ba_v (p : Nat) : ls_V := fun s => if s = p then some 0 else none
def ba_nr (l : List (Nat × Nat)) (p : Nat) : ls_V := ls_it (am_ee l) 16 (ba_v p)
def ba_ex (l : List (Nat × Nat)) : Nat → Nat → List (Nat × Nat) → Option (List (Nat × Nat))
  | 0, _, ar => some ar
  | m + 1, p, ar => match mk_run (ba_it l (ba_nr l p) p) ar with
    | none => none
    | some ar2 => ba_ex l m (p + 1) ar2
def ba_es (a : am_T) (p : Nat) : Nat → Option Nat := fun q => if q < p then ba_le (ba_nr (am_ar a) q) (am_en a) (am_n a) else none
def ba_mk (a : am_T) : Option am_T := match ba_ex (am_ar a) (am_n a) 0 [] with
  | none => none
  | some ar => some (am_n a, am_st a, ba_es a (am_n a), ar)
theorem ba_es_s (a : am_T) (p : Nat) : va_up (ba_es a p) p (ba_le (ba_nr (am_ar a) p) (am_en a) (am_n a)) = ba_es a (p + 1) := by
  funext q
  unfold ba_es
  by_cases h : q = p
  · subst h
    rw [gm_us, if_pos (by omega)]
  · rw [gm_un h]
    by_cases h2 : q < p
    · rw [if_pos h2, if_pos (by omega)]
    · rw [if_neg h2, if_neg (by omega)]
def mb_iv (M : gm_V) (a : am_T) : Prop := gm_is M a ∧ am_b 35184372088832 a ∧ am_so (am_ar a)
def mb_q (v : Option Value) (M : gm_V) (n : Nat) (st : Option (Nat × Nat)) (en : Nat → Option Nat) (o : Option (List (Nat × Nat))) : Prop := match o with
  | none => v = some (.int (nI 0))
  | some ar => v = some (.int (nI 1)) ∧ mb_iv M (n, st, en, ar)
def mb_Q (v : Option Value) (M : gm_V) (o : Option am_T) : Prop := match o with
  | none => v = some (.int (nI 0))
  | some a => v = some (.int (nI 1)) ∧ mb_iv M a
theorem mb_in {M : gm_V} {n : Nat} {st : Option (Nat × Nat)} {en : Nat → Option Nat} {ar : List (Nat × Nat)} {key w : Nat} {M0 : gm_V} (h : mb_iv M0 (n, st, en, ar)) (hM : gm_is M (n, st, en, am_in key w ar)) (hr : am_rm key ar = true) (hk : key < 16384) (hw : w < 35184372088832) : mb_iv M (n, st, en, am_in key w ar) :=
  ⟨hM, ⟨h.2.1.1, am_in_len hr h.2.1.2.1, fun z hz => co_inb h.2.1.2.2.1 hk hw hz, h.2.1.2.2.2⟩, am_in_so h.2.2⟩
theorem mb_end {M : gm_V} {n : Nat} {st : Option (Nat × Nat)} {en : Nat → Option Nat} {ar : List (Nat × Nat)} {s : Nat} {o : Option Nat} {z : Int64} (h : mb_iv M (n, st, en, ar)) (hz : z = am_e o) (ho : ∀ e, o = some e → e < 35184372088832) : mb_iv (gm_n M, gm_q M, gm_s M, vp_updL (gm_e M) s z, gm_c M, gm_k M, gm_g M) (n, st, va_up en s o, ar) := by
  refine ⟨⟨h.1.1, h.1.2.1, fun q hq => ?_, h.1.2.2.2⟩, ⟨h.2.1.1, h.2.1.2.1, h.2.1.2.2.1, fun q e he => ?_, h.2.1.2.2.2.2⟩, h.2.2⟩
  · show vp_updL (gm_e M) s z q = am_e (va_up en s o q)
    by_cases hqs : q = s
    · subst hqs
      rw [pk_uLs, gm_us, hz]
    · rw [pk_uLn hqs, gm_un hqs]
      exact h.1.2.2.1 q hq
  · by_cases hqs : q = s
    · subst hqs
      have he : va_up en q o q = some e := he
      rw [gm_us] at he
      exact ho e he
    · have he : va_up en s o q = some e := he
      rw [gm_un hqs] at he
      exact h.2.1.2.2.2.1 q e he
theorem fe_e {o : Option Nat} (h : ∀ a, o = some a → a < 2 ^ 60) : (if am_f o < 1152921504606846976 then am_f o else -1) = am_e o := by
  cases o with
  | none => rfl
  | some a =>
    have := h a rfl
    show (if lN a < lN 1152921504606846976 then lN a else -1) = lN a
    rw [if_pos ((pk_lLT (by omega) (by decide)).mpr (by omega))]
set_option maxRecDepth 100000 in
set_option maxHeartbeats 4000000 in
theorem ct_Ba_leastEnd (l : Launch) (D : va_G) (dA : Nat → ClassId) (ad : Nat → Nat) (mm : Nat → gm_V) (r : Nat → va_E) {ia : Nat} {a : am_T} {f : Nat → Int64} {nv : ls_V} (hia : ia < 5) (hMa : gm_is (mm ia) a) (hba : am_b 1000000001 a) (h24 : r 24 = .inr (0, [.ref (ad 25)])) (h25 : r 25 = .inl (dA 1, 16, .inr (.inl f))) (hf : sp_in f 0 nv) (hnb : sp_b 17592186044416 nv) : gx_Ct l D dA yy_Ba_leastEnd cc_Ba_leastEnd 5 (some .long) 1 0 0 [.ref (ad 24), .ref (ad (2 + 4 * ia))] (gx_w ad (gm_h dA ad mm r)) (fun v w => v = some (.long (am_f (ba_le nv (am_en a) (am_n a)))) ∧ w = (gx_w ad (gm_h dA ad mm r))) := by
  refine gx_of (by decide) (Nat.le_of_ble_eq_true rfl) (fun K C _ _ => ?_)
  have hn16 := hba.1
  have loop : ∀ m q, q + m = am_n a → gx_G K D 5 0 0 7 [(4, .int (nI q)), (2, .long (am_f (ba_le nv (am_en a) q))), (0, .ref (ad 24)), (1, .ref (ad (2 + 4 * ia)))] [] (gx_w ad (gm_h dA ad mm r)) (gx_Z K D dA 0 0 (fun v w => v = some (.long (am_f (ba_le nv (am_en a) (am_n a)))) ∧ w = (gx_w ad (gm_h dA ad mm r)))) := by
    intro m
    induction m with
    | zero =>
      intro q hq
      refine gx_iload C 0 dd_Ba_leastEnd_7 (kk := ?_)
      refine gx_aload_n C 3 dd_Ba_leastEnd_9 (kk := ?_)
      refine gm_get C fd_Ba_15 hia dd_Ba_leastEnd_10 (kk := ?_)
      refine gx_topi _ hMa.1 ?_
      refine gx_icmp_ge C 41 dd_Ba_leastEnd_13 (fun h13 => ?_) (fun h13 => absurd (nI_le (a := am_n a) (b := q) (by omega) (by omega)) h13)
      refine gx_lload_n C 1 dd_Ba_leastEnd_41 (kk := ?_)
      refine gx_lret C dd_Ba_leastEnd_42 ?_
      rw [show q = am_n a by omega]
      exact ⟨rfl, rfl⟩
    | succ m ih =>
      intro q hq
      refine gx_iload C 0 dd_Ba_leastEnd_7 (kk := ?_)
      refine gx_aload_n C 3 dd_Ba_leastEnd_9 (kk := ?_)
      refine gm_get C fd_Ba_15 hia dd_Ba_leastEnd_10 (kk := ?_)
      refine gx_topi _ hMa.1 ?_
      refine gx_icmp_ge C 41 dd_Ba_leastEnd_13 (fun h13 => absurd h13 (nI_ge (by omega) (by omega))) (fun h13 => ?_)
      refine gx_lload_n C 1 dd_Ba_leastEnd_16 (kk := ?_)
      refine gx_aload_n C 2 dd_Ba_leastEnd_17 (kk := ?_)
      refine gx_get C fd_Ba_9 (gm_r h24) dd_Ba_leastEnd_18 (kk := ?_)
      refine gx_iload C 0 dd_Ba_leastEnd_21 (kk := ?_)
      refine gz_laload C h25 dd_Ba_leastEnd_23 (by omega) (kk := ?_)
      refine gx_topl (am_f (nv q)) (by have := hf q (by omega); rw [Nat.zero_add] at this; exact this) ?_
      refine gx_aload_n C 3 dd_Ba_leastEnd_24 (kk := ?_)
      refine gx_iload C 0 dd_Ba_leastEnd_25 (kk := ?_)
      refine gx_callV C (ct_Ma_endOrFar (gx_l K) D dA ad mm r (q := q) hia (by omega) hMa (fun q e he => Nat.lt_trans (hba.2.2.2.1 q e he) (by decide))) me_Ma_endOrFar ml_Ba_59 mn_Ma_endOrFar _ (gx_w_at (by omega) (gm_at (j := 0) hia (by decide))) rfl dd_Ba_leastEnd_27 (kk := fun v w hq => ?_)
      obtain ⟨rfl, rfl⟩ := hq
      refine gx_ladd C dd_Ba_leastEnd_30 (kk := ?_)
      refine gx_min C ml_Ba_63 dd_Ba_leastEnd_31 (kk := ?_)
      refine gx_topl (am_f (ba_le nv (am_en a) (q + 1))) (om_f (fun a h => Nat.lt_trans (hnb _ a h) (by decide)) (fun e h => Nat.lt_trans (hba.2.2.2.1 _ e h) (by decide)) (fun e h => Nat.lt_trans (ba_le_b (B := 17592186044416) hnb (fun q e h => Nat.lt_trans (hba.2.2.2.1 q e h) (by decide)) q e h) (by decide))) ?_
      refine gx_lstore_n C _ dd_Ba_leastEnd_34 (kk := ?_)
      refine gx_iinc C 1 (nI (q + 1)) _ dd_Ba_leastEnd_35 (nI_1 q) (kk := ?_)
      refine gx_goto C 7 dd_Ba_leastEnd_38 (kk := ?_)
      exact ih (q + 1) (by omega)
  refine gx_ldc2 C dd_Ba_leastEnd_0 kc_Ba_36 (kk := ?_)
  refine gx_lstore_n C _ dd_Ba_leastEnd_3 (kk := ?_)
  refine gx_iconst (v := nI 0) C dd_Ba_leastEnd_4 (kk := ?_)
  refine gx_istore C _ dd_Ba_leastEnd_5 (kk := ?_)
  exact loop (am_n a) 0 (by omega)
set_option maxRecDepth 100000 in
set_option maxHeartbeats 4000000 in
theorem ct_Ba_bringOthers (l : Launch) (D : va_G) (dA : Nat → ClassId) (ad : Nat → Nat) (mm : Nat → gm_V) (r : Nat → va_E) {ia im n0 p : Nat} {st : Option (Nat × Nat)} {en : Nat → Option Nat} {ar : List (Nat × Nat)} {f : Nat → Int64} {nv : ls_V} (him : im < 5) {a : am_T} (hia : ia < 5) (hna : ia ≠ im) (hMa : gm_is (mm ia) a) (hba : am_b 1000000001 a) (hsa : am_so (am_ar a)) (h24 : r 24 = .inr (0, [.ref (ad 25)])) (h25 : r 25 = .inl (dA 1, 16, .inr (.inl f))) (hf : sp_in f 0 nv) (hnb : sp_b 17592186044416 nv) (hp : p < 16) (hI : mb_iv (mm im) (n0, st, en, ar)) : gx_Ct l D dA yy_Ba_bringOthers cc_Ba_bringOthers 9 (some .boolean) 2 0 0 [.ref (ad 24), .ref (ad (2 + 4 * ia)), .int (nI p), .ref (ad (2 + 4 * im))] (gx_w ad (gm_h dA ad mm r)) (fun v w => ∃ M, w = (gx_w ad (gm_h dA ad (va_up mm im M) r)) ∧ mb_q v M n0 st en (mk_run (ba_it (am_ar a) nv p) ar)) := by
  refine gx_of (by decide) (Nat.le_of_ble_eq_true rfl) (fun K C _ _ => ?_)
  have hl64 := hba.2.1
  obtain ⟨R, hR⟩ : ∃ R, mk_run (ba_it (am_ar a) nv p) ar = R := ⟨_, rfl⟩
  rw [hR]
  have loop : ∀ m j ar M, j + m = (am_ar a).length → mb_iv M (n0, st, en, ar) → mk_run (((am_ar a).drop j).flatMap (ba_i nv p)) ar = R → gx_G K D 9 0 0 3 [(4, .int (nI j)), (0, .ref (ad 24)), (1, .ref (ad (2 + 4 * ia))), (2, .int (nI p)), (3, .ref (ad (2 + 4 * im)))] [] (gx_w ad (gm_h dA ad (va_up mm im M) r)) (gx_Z K D dA 0 0 (fun v w => ∃ M, w = (gx_w ad (gm_h dA ad (va_up mm im M) r)) ∧ mb_q v M n0 st en R)) := by
    intro m
    induction m with
    | zero =>
      intro j ar M hj hI hR
      refine gx_iload C 0 dd_Ba_bringOthers_3 (kk := ?_)
      refine gx_aload_n C 2 dd_Ba_bringOthers_5 (kk := ?_)
      refine gm_get C fd_Ba_69 hia dd_Ba_bringOthers_6 (kk := ?_)
      refine gx_topi (nI (am_ar a).length) (by rw [gm_un hna]; exact hMa.2.2.2.1) ?_
      refine gx_icmp_ge C 100 dd_Ba_bringOthers_9 (fun h9 => ?_) (fun h9 => absurd (nI_le (a := (am_ar a).length) (b := j) (by omega) (by omega)) h9)
      refine gx_iconst (v := nI 1) C dd_Ba_bringOthers_100 (kk := ?_)
      refine gx_zret C dd_Ba_bringOthers_101 (by first | rfl | exact fb_nar) ?_
      rw [List.drop_eq_nil_of_le (by omega)] at hR
      exact ⟨M, rfl, by rw [← hR]; exact ⟨rfl, hI⟩⟩
    | succ m ih =>
      intro j ar M hj hI hR
      obtain ⟨x, hx⟩ : ∃ x, (am_ar a)[j]? = some x := ⟨_, List.getElem?_eq_getElem (by omega)⟩
      obtain ⟨hx1, hx2⟩ := hMa.2.2.2.2 _ _ hx
      obtain ⟨hxb, hxw⟩ := hba.2.2.1 x (List.mem_of_getElem? hx)
      refine gx_iload C 0 dd_Ba_bringOthers_3 (kk := ?_)
      refine gx_aload_n C 2 dd_Ba_bringOthers_5 (kk := ?_)
      refine gm_get C fd_Ba_69 hia dd_Ba_bringOthers_6 (kk := ?_)
      refine gx_topi (nI (am_ar a).length) (by rw [gm_un hna]; exact hMa.2.2.2.1) ?_
      refine gx_icmp_ge C 100 dd_Ba_bringOthers_9 (fun h9 => absurd h9 (nI_ge (by omega) (by omega))) (fun h9 => ?_)
      refine gx_aload_n C 2 dd_Ba_bringOthers_12 (kk := ?_)
      refine gm_get C fd_Ba_72 (by assumption) dd_Ba_bringOthers_13 (kk := ?_)
      refine gx_iload C 0 dd_Ba_bringOthers_16 (kk := ?_)
      refine gm_ln_k C hia dd_Ba_bringOthers_18 (by omega) (kk := ?_)
      refine gx_topi (nI x.1) (by rw [gm_un hna]; exact hx1) ?_
      refine gx_callS C (ct_WM_labelsOf (gx_l K) D dA _ x.1 (by omega)) me_WM_labelsOf ml_Ba_76 ms_WM_labelsOf dd_Ba_bringOthers_19 (kk := fun v w hq => ?_)
      obtain ⟨rfl, rfl⟩ := hq
      refine gx_istore C _ dd_Ba_bringOthers_22 (kk := ?_)
      refine gx_aload_n C 2 dd_Ba_bringOthers_24 (kk := ?_)
      refine gx_get C fd_Ba_9 (gm_r h24) dd_Ba_bringOthers_25 (kk := ?_)
      refine gx_aload_n C 3 dd_Ba_bringOthers_28 (kk := ?_)
      refine gm_get C fd_Ba_72 (by assumption) dd_Ba_bringOthers_29 (kk := ?_)
      refine gx_iload C 1 dd_Ba_bringOthers_32 (kk := ?_)
      refine gm_ln_k C hia dd_Ba_bringOthers_34 (by omega) (kk := ?_)
      refine gx_topi (nI x.1) (by rw [gm_un hna]; exact hx1) ?_
      refine gx_callS C (ct_WM_fromOf (gx_l K) D dA _ x.1 (by omega)) me_WM_fromOf ml_Ba_80 ms_WM_fromOf dd_Ba_bringOthers_35 (kk := fun v w hq => ?_)
      obtain ⟨rfl, rfl⟩ := hq
      refine gz_laload C h25 dd_Ba_bringOthers_38 (by omega) (kk := ?_)
      refine gx_topl (am_f (nv (x.1 / 1024))) (by have := hf (x.1 / 1024) (by omega); rw [Nat.zero_add] at this; exact this) ?_
      refine gx_lstore C _ dd_Ba_bringOthers_39 (kk := ?_)
      refine gx_iload C 1 dd_Ba_bringOthers_41 (kk := ?_)
      refine gx_if_eq C 94 dd_Ba_bringOthers_43 (fun h43 => ?_) (fun h43 => ?_)
      · refine gx_iinc C 2 (nI (j + 1)) _ dd_Ba_bringOthers_94 (nI_1 j) (kk := ?_)
        refine gx_goto C 3 dd_Ba_bringOthers_97 (kk := ?_)
        refine gx_loc [0, 3, 4, 5, 6] ?_
        rw [show (0 : Int32) = nI 0 from rfl, nI_eq (by omega) (by decide)] at h43
        have hf1 : ba_i nv p x = [] := if_pos h43
        rw [List.drop_eq_getElem_cons (show j < (am_ar a).length by omega), (List.getElem?_eq_some_iff.mp hx).2, List.flatMap_cons, hf1, List.nil_append] at hR
        exact ih (j + 1) ar M (by omega) hI hR
      · refine gx_lload C 0 dd_Ba_bringOthers_46 (kk := ?_)
        refine gx_ldc2 C dd_Ba_bringOthers_48 kc_Ba_36 (kk := ?_)
        refine gx_lcmp C dd_Ba_bringOthers_51 (kk := ?_)
        refine gx_if_ge C 94 dd_Ba_bringOthers_52 (fun h52 => ?_) (fun h52 => ?_)
        · refine gx_iinc C 2 (nI (j + 1)) _ dd_Ba_bringOthers_94 (nI_1 j) (kk := ?_)
          refine gx_goto C 3 dd_Ba_bringOthers_97 (kk := ?_)
          refine gx_loc [0, 3, 4, 5, 6] ?_
          rw [show (0 : Int32) = nI 0 from rfl, nI_eq (by omega) (by decide)] at h43
          rw [lc_ge] at h52
          have hnn : nv (x.1 / 1024) = none := by
            cases hz : nv (x.1 / 1024) with
            | none => rfl
            | some d =>
              rw [hz] at h52
              have hd := hnb _ _ hz
              have h52 : lN 1152921504606846976 ≤ lN d := h52
              rw [pk_lLE (by decide) (by omega)] at h52
              omega
          have hf1 : ba_i nv p x = [] := by unfold ba_i; rw [if_neg h43, hnn]
          rw [List.drop_eq_getElem_cons (show j < (am_ar a).length by omega), (List.getElem?_eq_some_iff.mp hx).2, List.flatMap_cons, hf1, List.nil_append] at hR
          exact ih (j + 1) ar M (by omega) hI hR
        · rw [lc_ge] at h52
          obtain ⟨d, hd⟩ : ∃ d, nv (x.1 / 1024) = some d := by
            cases hz : nv (x.1 / 1024) with
            | none => rw [hz] at h52; exact absurd (Int64.le_refl _) h52
            | some d => exact ⟨d, rfl⟩
          have hdb := hnb _ _ hd
          rw [hd]
          rw [show (0 : Int32) = nI 0 from rfl, nI_eq (by omega) (by decide)] at h43
          have hf1 : ba_i nv p x = [(p * 1024 + x.1 / 16 % 64 * 16 + x.1 % 16, d + x.2)] := by unfold ba_i; rw [if_neg h43, hd]
          rw [List.drop_eq_getElem_cons (show j < (am_ar a).length by omega), (List.getElem?_eq_some_iff.mp hx).2, List.flatMap_cons, hf1, List.singleton_append] at hR
          refine gx_iload_n C 5 dd_Ba_bringOthers_55 (kk := ?_)
          refine gx_iload C 1 dd_Ba_bringOthers_56 (kk := ?_)
          refine gx_aload_n C 4 dd_Ba_bringOthers_58 (kk := ?_)
          refine gm_get C fd_Ba_72 (by assumption) dd_Ba_bringOthers_59 (kk := ?_)
          refine gx_iload C 2 dd_Ba_bringOthers_62 (kk := ?_)
          refine gm_ln_k C hia dd_Ba_bringOthers_64 (by omega) (kk := ?_)
          refine gx_topi (nI x.1) (by rw [gm_un hna]; exact hx1) ?_
          refine gx_callS C (ct_WM_toOf (gx_l K) D dA _ x.1 (by omega)) me_WM_toOf ml_Ba_83 ms_WM_toOf dd_Ba_bringOthers_65 (kk := fun v w hq => ?_)
          obtain ⟨rfl, rfl⟩ := hq
          refine gx_callS C (ct_WM_keyOf (gx_l K) D dA _ p (x.1 / 16 % 64) (x.1 % 16) (by omega) (by omega) (by omega)) me_WM_keyOf ml_Ba_86 ms_WM_keyOf dd_Ba_bringOthers_68 (kk := fun v w hq => ?_)
          obtain ⟨rfl, rfl⟩ := hq
          refine gx_istore C _ dd_Ba_bringOthers_71 (kk := ?_)
          refine gx_aload_n C 7 dd_Ba_bringOthers_73 (kk := ?_)
          refine gx_iload C 0 dd_Ba_bringOthers_74 (kk := ?_)
          refine gx_lload C 1 dd_Ba_bringOthers_76 (kk := ?_)
          refine gx_aload_n C 5 dd_Ba_bringOthers_78 (kk := ?_)
          refine gm_get C fd_Ba_90 (by assumption) dd_Ba_bringOthers_79 (kk := ?_)
          refine gx_iload C 3 dd_Ba_bringOthers_82 (kk := ?_)
          refine gm_ln_g C hia dd_Ba_bringOthers_84 (by omega) (kk := ?_)
          refine gx_topl (lN x.2) (by rw [gm_un hna]; exact hx2) ?_
          refine gx_ladd C dd_Ba_bringOthers_85 (kk := ?_)
          refine gx_topl (lN (d + x.2)) (lN_add _ _) ?_
          refine gx_callV C (ct_Ma_bring (gx_l K) D dA ad (va_up mm im M) r (key := p * 1024 + x.1 / 16 % 64 * 16 + x.1 % 16) (x0 := d + x.2) (B := 35184372088832) him (by rw [gm_us]; exact hI.1) hI.2.1 hI.2.2 (by decide) (by omega) (by omega)) me_Ma_bring ml_Ba_93 mn_Ma_bring _ (gx_w_at (by omega) (gm_at (j := 0) him (by decide))) rfl dd_Ba_bringOthers_86 (kk := fun v w hq => ?_)
          rcases hq with ⟨hr, rfl, M2, rfl, hM2⟩ | ⟨hr, rfl, rfl⟩
          · rw [gm_uu]
            rw [mk_run_y (x := (p * 1024 + x.1 / 16 % 64 * 16 + x.1 % 16, d + x.2)) hr] at hR
            have hI2 := mb_in hI hM2 hr (by omega) (by omega)
            refine gx_if_ne C 94 dd_Ba_bringOthers_89 (fun h89 => ?_) (fun h89 => absurd h89 (by decide))
            refine gx_iinc C 3 (nI (j + 1)) _ dd_Ba_bringOthers_94 (nI_1 j) (kk := ?_)
            refine gx_goto C 3 dd_Ba_bringOthers_97 (kk := ?_)
            refine gx_loc [0, 4, 5, 6, 7] ?_
            exact ih (j + 1) _ M2 (by omega) hI2 hR
          · rw [mk_run_n (x := (p * 1024 + x.1 / 16 % 64 * 16 + x.1 % 16, d + x.2)) hr] at hR
            refine gx_if_ne C 94 dd_Ba_bringOthers_89 (fun h89 => absurd rfl h89) (fun h89 => ?_)
            refine gx_iconst (v := nI 0) C dd_Ba_bringOthers_92 (kk := ?_)
            refine gx_zret C dd_Ba_bringOthers_93 (by first | rfl | exact fb_nar) ?_
            exact ⟨M, rfl, by rw [← hR]; rfl⟩
  refine gx_iconst (v := nI 0) C dd_Ba_bringOthers_0 (kk := ?_)
  refine gx_istore C _ dd_Ba_bringOthers_1 (kk := ?_)
  refine gx_wld ?_ (loop (am_ar a).length 0 ar (mm im) (by omega) hI hR)
  rw [gm_ue]
theorem ba_sp {p : Nat} (hp : p < 16) (f : Nat → Int64) : sp_in (vp_updL (fun j => if j < 16 then 1152921504606846976 else f j) p (lN 0)) 0 (ba_v p) := by
  intro s hs
  rw [Nat.zero_add]
  unfold ba_v
  by_cases h : s = p
  · subst h
    rw [pk_uLs, if_pos rfl]
    rfl
  · rw [pk_uLn h, if_neg h, if_pos hs]
    rfl
theorem ba_vb (p : Nat) : sp_b 1 (ba_v p) := by
  intro s x hx
  unfold ba_v at hx
  split at hx
  · cases hx; decide
  · cases hx
set_option maxRecDepth 100000 in
set_option maxHeartbeats 4000000 in
theorem ct_Ba_build (l : Launch) (D : va_G) (dA : Nat → ClassId) (ad : Nat → Nat) (mm : Nat → gm_V) (r : Nat → va_E) {ia im : Nat} {f : Nat → Int64} (him : im < 5) {a : am_T} (hia : ia < 5) (hna : ia ≠ im) (hMa : gm_is (mm ia) a) (hba : am_b 1000000001 a) (hsa : am_so (am_ar a)) (hnd : ∀ x ∈ am_ar a, x.1 / 1024 < am_n a ∧ x.1 % 16 < am_n a) (h24 : r 24 = .inr (0, [.ref (ad 25)])) (h25 : r 25 = .inl (dA 1, 16, .inr (.inl f))) : gx_Ct l D dA yy_Ba_build cc_Ba_build 5 (some .boolean) 3 0 0 [.ref (ad 24), .ref (ad (2 + 4 * ia)), .ref (ad (2 + 4 * im))] (gx_w ad (gm_h dA ad mm r)) (fun v w => ∃ M r2, w = gx_w ad (gm_h dA ad (va_up mm im M) r2) ∧ r2 24 = .inr (0, [.ref (ad 25)]) ∧ (∃ f2, r2 25 = .inl (dA 1, 16, .inr (.inl f2))) ∧ (∀ k, k ≠ 25 → r2 k = r k) ∧ mb_Q v M (ba_mk a)) := by
  refine gx_of (by decide) (Nat.le_of_ble_eq_true rfl) (fun K C _ _ => ?_)
  have hn16 := hba.1
  obtain ⟨R, hR1⟩ : ∃ R, ba_ex (am_ar a) (am_n a) 0 [] = R := ⟨_, rfl⟩
  have fail : ∀ p M f, p ≤ 16 → none = R → gx_G K D 5 0 0 25 [(4, .int (nI p)), (3, .int (nI 0)), (0, .ref (ad 24)), (1, .ref (ad (2 + 4 * ia))), (2, .ref (ad (2 + 4 * im)))] [] (gx_w ad (gm_h dA ad (va_up mm im M) (va_up r 25 (.inl (dA 1, 16, .inr (.inl f)))))) (gx_Z K D dA 0 0 (fun v w => ∃ M r2, w = gx_w ad (gm_h dA ad (va_up mm im M) r2) ∧ r2 24 = .inr (0, [.ref (ad 25)]) ∧ (∃ f2, r2 25 = .inl (dA 1, 16, .inr (.inl f2))) ∧ (∀ k, k ≠ 25 → r2 k = r k) ∧ mb_Q v M (ba_mk a))) := by
    intro p M f hs16 hR
    refine gx_iload C 0 dd_Ba_build_25 (kk := ?_)
    refine gx_aload_n C 3 dd_Ba_build_27 (kk := ?_)
    refine gm_get C fd_Ba_15 hia dd_Ba_build_28 (kk := ?_)
    refine gx_topi (nI (am_n a)) (by rw [gm_un hna]; exact hMa.1) ?_
    refine gx_icmp_ge C 91 dd_Ba_build_31 (fun h31 => ?_) (fun h31 => ?_)
    · refine gx_iload_n C 1 dd_Ba_build_91 (kk := ?_)
      refine gx_zret C dd_Ba_build_92 (by first | rfl | exact fb_nar) ?_
      refine ⟨M, _, rfl, (gm_un (by decide)).trans h24, ⟨f, gm_us⟩, fun k hk => gm_un hk, ?_⟩
      unfold ba_mk
      rw [hR1, ← hR]
      rfl
    · refine gx_iload_n C 1 dd_Ba_build_34 (kk := ?_)
      refine gx_if_eq C 91 dd_Ba_build_35 (fun h35 => ?_) (fun h35 => absurd rfl h35)
      refine gx_iload_n C 1 dd_Ba_build_91 (kk := ?_)
      refine gx_zret C dd_Ba_build_92 (by first | rfl | exact fb_nar) ?_
      refine ⟨M, _, rfl, (gm_un (by decide)).trans h24, ⟨f, gm_us⟩, fun k hk => gm_un hk, ?_⟩
      unfold ba_mk
      rw [hR1, ← hR]
      rfl
  have loop : ∀ m p ar M f, p + m = am_n a → mb_iv M (am_n a, am_st a, ba_es a p, ar) → ba_ex (am_ar a) m p ar = R → gx_G K D 5 0 0 25 [(4, .int (nI p)), (3, .int (nI 1)), (0, .ref (ad 24)), (1, .ref (ad (2 + 4 * ia))), (2, .ref (ad (2 + 4 * im)))] [] (gx_w ad (gm_h dA ad (va_up mm im M) (va_up r 25 (.inl (dA 1, 16, .inr (.inl f)))))) (gx_Z K D dA 0 0 (fun v w => ∃ M r2, w = gx_w ad (gm_h dA ad (va_up mm im M) r2) ∧ r2 24 = .inr (0, [.ref (ad 25)]) ∧ (∃ f2, r2 25 = .inl (dA 1, 16, .inr (.inl f2))) ∧ (∀ k, k ≠ 25 → r2 k = r k) ∧ mb_Q v M (ba_mk a))) := by
    intro m
    induction m with
    | zero =>
      intro p ar M f hm hI hR
      refine gx_iload C 0 dd_Ba_build_25 (kk := ?_)
      refine gx_aload_n C 3 dd_Ba_build_27 (kk := ?_)
      refine gm_get C fd_Ba_15 hia dd_Ba_build_28 (kk := ?_)
      refine gx_topi (nI (am_n a)) (by rw [gm_un hna]; exact hMa.1) ?_
      refine gx_icmp_ge C 91 dd_Ba_build_31 (fun h31 => ?_) (fun h31 => absurd (nI_le (a := am_n a) (b := p) (by omega) (by omega)) h31)
      refine gx_iload_n C 1 dd_Ba_build_91 (kk := ?_)
      refine gx_zret C dd_Ba_build_92 (by first | rfl | exact fb_nar) ?_
      refine ⟨M, _, rfl, (gm_un (by decide)).trans h24, ⟨f, gm_us⟩, fun k hk => gm_un hk, ?_⟩
      unfold ba_mk
      rw [hR1, ← hR]
      rw [show p = am_n a by omega] at hI
      exact ⟨rfl, hI⟩
    | succ m ih =>
      intro p ar M f hm hI hR
      have hp16 : p < 16 := by omega
      refine gx_iload C 0 dd_Ba_build_25 (kk := ?_)
      refine gx_aload_n C 3 dd_Ba_build_27 (kk := ?_)
      refine gm_get C fd_Ba_15 hia dd_Ba_build_28 (kk := ?_)
      refine gx_topi (nI (am_n a)) (by rw [gm_un hna]; exact hMa.1) ?_
      refine gx_icmp_ge C 91 dd_Ba_build_31 (fun h31 => absurd h31 (nI_ge (by omega) (by omega))) (fun h31 => ?_)
      refine gx_iload_n C 1 dd_Ba_build_34 (kk := ?_)
      refine gx_if_eq C 91 dd_Ba_build_35 (fun h35 => absurd h35 (by decide)) (fun h35 => ?_)
      refine gx_aload_n C 2 dd_Ba_build_38 (kk := ?_)
      refine gx_get C fd_Ba_9 (gm_r ((gm_un (by decide)).trans h24)) dd_Ba_build_39 (kk := ?_)
      refine gx_ldc2 C dd_Ba_build_42 kc_Ba_36 (kk := ?_)
      refine gx_callS C (ct_JA_fill (gx_l K) D dA ad (gm_h dA ad (va_up mm im M) (va_up r 25 (.inl (dA 1, 16, .inr (.inl f))))) 25 16 f 1152921504606846976 (by decide) (by decide) (gm_r gm_us)) me_JA_fill ml_Ba_38 ms_JA_fill dd_Ba_build_45 (kk := fun v w hq => ?_)
      obtain ⟨rfl, rfl⟩ := hq
      rw [gm_upr (by decide), gm_uu]
      refine gx_aload_n C 2 dd_Ba_build_48 (kk := ?_)
      refine gx_get C fd_Ba_9 (gm_r ((gm_un (by decide)).trans h24)) dd_Ba_build_49 (kk := ?_)
      refine gx_iload C 0 dd_Ba_build_52 (kk := ?_)
      refine gx_lconst (v := lN 0) C dd_Ba_build_54 (kk := ?_)
      refine gz_lastore C gm_us dd_Ba_build_55 (by omega) (kk := fun r1 hr1 => ?_)
      rw [gm_uu] at hr1
      subst hr1
      refine gx_aload_n C 3 dd_Ba_build_56 (kk := ?_)
      refine gx_aload_n C 2 dd_Ba_build_57 (kk := ?_)
      refine gx_get C fd_Ba_9 (gm_r ((gm_un (by decide)).trans h24)) dd_Ba_build_58 (kk := ?_)
      refine gx_iconst (v := nI 0) C dd_Ba_build_61 (kk := ?_)
      refine gx_callV C (ct_Ma_spread (gx_l K) D dA ad (va_up mm im M) (va_up r 25 (.inl (dA 1, 16, .inr (.inl (vp_updL (fun j => if j < 16 then 1152921504606846976 else f j) p (lN 0)))))) (q := 25) (n0 := 16) (base := 0) (B := 1) (wt := 1000000001) (v0 := ba_v p) hia (by rw [gm_un hna]; exact hMa) hn16 hba.2.1 hba.2.2.1 hnd (by decide) (by decide) (by decide) (by decide) gm_us (ba_sp hp16 f) (ba_vb p) (by decide)) me_Ma_spread ml_Ba_44 mn_Ma_spread _ (gx_w_at (by omega) (gm_at (j := 0) hia (by decide))) rfl dd_Ba_build_62 (kk := fun v w hq => ?_)
      obtain ⟨rfl, f2, v2, rfl, hf2, -, hfix, hvb⟩ := hq
      rw [gm_uu]
      have hv2 : v2 = ba_nr (am_ar a) p := ls_one hfix (ls_it_fix (am_ee_in hnd) (by omega))
      subst hv2
      refine gx_aload_n C 4 dd_Ba_build_65 (kk := ?_)
      refine gx_iload C 0 dd_Ba_build_66 (kk := ?_)
      refine gx_aload_n C 2 dd_Ba_build_68 (kk := ?_)
      refine gx_aload_n C 3 dd_Ba_build_69 (kk := ?_)
      refine gx_callV C (ct_Ba_leastEnd (gx_l K) D dA ad (va_up mm im M) (va_up r 25 (.inl (dA 1, 16, .inr (.inl f2)))) (nv := ba_nr (am_ar a) p) hia (by rw [gm_un hna]; exact hMa) hba ((gm_un (by decide)).trans h24) gm_us hf2 (sp_b_mono hvb (by decide))) me_Ba_leastEnd ml_Ba_48 mn_Ba_leastEnd _ (gx_w_at (by decide) (gm_r ((gm_un (by decide)).trans h24))) rfl dd_Ba_build_70 (kk := fun v w hq => ?_)
      obtain ⟨rfl, rfl⟩ := hq
      refine gx_callV C (ct_Ma_setEndUnlessFar (gx_l K) D dA ad (va_up mm im M) (va_up r 25 (.inl (dA 1, 16, .inr (.inl f2)))) (q := p) him (by omega) _) me_Ma_setEndUnlessFar ml_Ba_52 mn_Ma_setEndUnlessFar _ (gx_w_at (by omega) (gm_at (j := 0) him (by decide))) rfl dd_Ba_build_73 (kk := fun v w hq => ?_)
      obtain ⟨rfl, rfl⟩ := hq
      rw [gm_us, gm_uu]
      have hle : ∀ e, ba_le (ba_nr (am_ar a) p) (am_en a) (am_n a) = some e → e < 35184372088832 := fun e h => Nat.lt_of_lt_of_le (ba_le_b (B := 17592186044416) (sp_b_mono hvb (by decide)) (fun q e h => Nat.lt_trans (hba.2.2.2.1 q e h) (by decide)) _ e h) (by decide)
      replace hI := mb_end (s := p) hI (fe_e (o := ba_le (ba_nr (am_ar a) p) (am_en a) (am_n a)) (fun e h => Nat.lt_trans (hle e h) (by decide))) hle
      rw [ba_es_s] at hI
      refine gx_aload_n C 2 dd_Ba_build_76 (kk := ?_)
      refine gx_aload_n C 3 dd_Ba_build_77 (kk := ?_)
      refine gx_iload C 0 dd_Ba_build_78 (kk := ?_)
      refine gx_aload_n C 4 dd_Ba_build_80 (kk := ?_)
      refine gx_callV C (ct_Ba_bringOthers (gx_l K) D dA ad _ (va_up r 25 (.inl (dA 1, 16, .inr (.inl f2)))) (n0 := am_n a) (st := am_st a) (en := ba_es a (p + 1)) (ar := ar) (p := p) (nv := ba_nr (am_ar a) p) him hia hna (by rw [gm_un hna]; exact hMa) hba hsa ((gm_un (by decide)).trans h24) gm_us hf2 (sp_b_mono hvb (by decide)) (by omega) (by rw [gm_us]; exact hI)) me_Ba_bringOthers ml_Ba_55 mn_Ba_bringOthers _ (gx_w_at (by decide) (gm_r ((gm_un (by decide)).trans h24))) rfl dd_Ba_build_81 (kk := fun v w hq => ?_)
      obtain ⟨M2, rfl, hq⟩ := hq
      rw [gm_uu]
      rcases hbr : mk_run (ba_it (am_ar a) (ba_nr (am_ar a) p) p) ar with _ | ar2
      · rw [hbr] at hq
        have hq : v = some (.int (nI 0)) := hq
        subst hq
        rw [show ba_ex (am_ar a) (m + 1) p ar = (match mk_run (ba_it (am_ar a) (ba_nr (am_ar a) p) p) ar with | none => none | some ar2 => ba_ex (am_ar a) m (p + 1) ar2) from rfl, hbr] at hR
        refine gx_istore_n C _ dd_Ba_build_84 (kk := ?_)
        refine gx_iinc C 1 (nI (p + 1)) _ dd_Ba_build_85 (nI_1 p) (kk := ?_)
        refine gx_goto C 25 dd_Ba_build_88 (kk := ?_)
        exact fail (p + 1) M2 f2 (by omega) hR
      · rw [hbr] at hq
        obtain ⟨hv, hI2⟩ := hq
        subst hv
        rw [show ba_ex (am_ar a) (m + 1) p ar = (match mk_run (ba_it (am_ar a) (ba_nr (am_ar a) p) p) ar with | none => none | some ar2 => ba_ex (am_ar a) m (p + 1) ar2) from rfl, hbr] at hR
        refine gx_istore_n C _ dd_Ba_build_84 (kk := ?_)
        refine gx_iinc C 1 (nI (p + 1)) _ dd_Ba_build_85 (nI_1 p) (kk := ?_)
        refine gx_goto C 25 dd_Ba_build_88 (kk := ?_)
        exact ih (p + 1) ar2 M2 f2 (by omega) hI2 hR
  refine gx_aload_n C 2 dd_Ba_build_0 (kk := ?_)
  refine gx_aload_n C 1 dd_Ba_build_1 (kk := ?_)
  refine gm_get C fd_Ba_15 hia dd_Ba_build_2 (kk := ?_)
  refine gx_topi _ hMa.1 ?_
  refine gx_callV C (ct_Ma_clear (gx_l K) D dA ad mm r (i := im) him (am_n a)) me_Ma_clear ml_Ba_21 mn_Ma_clear _ (gx_w_at (by omega) (gm_at (j := 0) him (by decide))) rfl dd_Ba_build_5 (kk := fun v w hq => ?_)
  obtain ⟨rfl, M0, rfl, hM0⟩ := hq
  refine gx_aload_n C 2 dd_Ba_build_8 (kk := ?_)
  refine gx_aload_n C 1 dd_Ba_build_9 (kk := ?_)
  refine gm_get C fd_Ba_25 hia dd_Ba_build_10 (kk := ?_)
  refine gx_topi (gm_q (mm ia)) (by rw [gm_un hna]) ?_
  refine gx_aload_n C 1 dd_Ba_build_13 (kk := ?_)
  refine gm_get C fd_Ba_28 hia dd_Ba_build_14 (kk := ?_)
  refine gx_topl (gm_s (mm ia)) (by rw [gm_un hna]) ?_
  refine gx_callV C (ct_Ma_setStart (gx_l K) D dA ad (va_up mm im M0) r (i := im) him (gm_q (mm ia)) (gm_s (mm ia))) me_Ma_setStart ml_Ba_32 mn_Ma_setStart _ (gx_w_at (by omega) (gm_at (j := 0) him (by decide))) rfl dd_Ba_build_17 (kk := fun v w hq => ?_)
  obtain ⟨rfl, rfl⟩ := hq
  rw [gm_us, gm_uu]
  refine gx_iconst (v := nI 1) C dd_Ba_build_20 (kk := ?_)
  refine gx_istore_n C _ dd_Ba_build_21 (kk := ?_)
  refine gx_iconst (v := nI 0) C dd_Ba_build_22 (kk := ?_)
  refine gx_istore C _ dd_Ba_build_23 (kk := ?_)
  refine gx_wld ?_ (loop (am_n a) 0 [] (gm_n M0, gm_q (mm ia), gm_s (mm ia), gm_e M0, gm_c M0, gm_k M0, gm_g M0) f (by omega) ?_ hR1)
  · rw [← h25, gm_ue]
  · refine ⟨⟨hM0.1, hMa.2.1, fun q hq => ?_, hM0.2.2.2⟩, ⟨hn16, Nat.zero_le _, fun x hx => absurd hx List.not_mem_nil, fun q e he => ?_, fun x hx => ⟨(hba.2.2.2.2 x hx).1, Nat.lt_trans (hba.2.2.2.2 x hx).2 (by decide)⟩⟩, List.Pairwise.nil⟩
    · show gm_e M0 q = am_e (ba_es a 0 q)
      rw [show ba_es a 0 q = none from if_neg (by omega)]
      exact hM0.2.2.1 q hq
    · have he : ba_es a 0 q = some e := he
      rw [show ba_es a 0 q = none from if_neg (by omega)] at he
      cases he
