theorem dd_Pa_isDigit_0 : decode cc_Pa_isDigit 0 = .ok (.iload_n 0, 1) := by decide +kernel
theorem dd_Pa_isDigit_1 : decode cc_Pa_isDigit 1 = .ok (.bipush 48, 2) := by decide +kernel
theorem dd_Pa_isDigit_3 : decode cc_Pa_isDigit 3 = .ok (.if_icmp .lt 13, 3) := by decide +kernel
theorem dd_Pa_isDigit_6 : decode cc_Pa_isDigit 6 = .ok (.iload_n 0, 1) := by decide +kernel
theorem dd_Pa_isDigit_7 : decode cc_Pa_isDigit 7 = .ok (.bipush 57, 2) := by decide +kernel
theorem dd_Pa_isDigit_9 : decode cc_Pa_isDigit 9 = .ok (.if_icmp .gt 7, 3) := by decide +kernel
theorem dd_Pa_isDigit_12 : decode cc_Pa_isDigit 12 = .ok (.iconst 1, 1) := by decide +kernel
theorem dd_Pa_isDigit_13 : decode cc_Pa_isDigit 13 = .ok (.goto 4, 3) := by decide +kernel
theorem dd_Pa_isDigit_16 : decode cc_Pa_isDigit 16 = .ok (.iconst 0, 1) := by decide +kernel
theorem dd_Pa_isDigit_17 : decode cc_Pa_isDigit 17 = .ok (.ireturn, 1) := by decide +kernel
theorem dd_Pa_readSign_0 : decode cc_Pa_readSign 0 = .ok (.aload_n 0, 1) := by decide +kernel
theorem dd_Pa_readSign_1 : decode cc_Pa_readSign 1 = .ok (.getfield 9, 3) := by decide +kernel
theorem dd_Pa_readSign_4 : decode cc_Pa_readSign 4 = .ok (.aload_n 0, 1) := by decide +kernel
theorem dd_Pa_readSign_5 : decode cc_Pa_readSign 5 = .ok (.getfield 19, 3) := by decide +kernel
theorem dd_Pa_readSign_8 : decode cc_Pa_readSign 8 = .ok (.invokevirtual 55, 3) := by decide +kernel
theorem dd_Pa_readSign_11 : decode cc_Pa_readSign 11 = .ok (.iload_n 1, 1) := by decide +kernel
theorem dd_Pa_readSign_12 : decode cc_Pa_readSign 12 = .ok (.if_icmp .eq 6, 3) := by decide +kernel
theorem dd_Pa_readSign_15 : decode cc_Pa_readSign 15 = .ok (.bipush (-4), 2) := by decide +kernel
theorem dd_Pa_readSign_17 : decode cc_Pa_readSign 17 = .ok (.ireturn, 1) := by decide +kernel
theorem dd_Pa_readSign_18 : decode cc_Pa_readSign 18 = .ok (.aload_n 0, 1) := by decide +kernel
theorem dd_Pa_readSign_19 : decode cc_Pa_readSign 19 = .ok (.dup, 1) := by decide +kernel
theorem dd_Pa_readSign_20 : decode cc_Pa_readSign 20 = .ok (.getfield 19, 3) := by decide +kernel
theorem dd_Pa_readSign_23 : decode cc_Pa_readSign 23 = .ok (.iconst 1, 1) := by decide +kernel
theorem dd_Pa_readSign_24 : decode cc_Pa_readSign 24 = .ok (.iadd, 1) := by decide +kernel
theorem dd_Pa_readSign_25 : decode cc_Pa_readSign 25 = .ok (.putfield 19, 3) := by decide +kernel
theorem dd_Pa_readSign_28 : decode cc_Pa_readSign 28 = .ok (.iconst 0, 1) := by decide +kernel
theorem dd_Pa_readSign_29 : decode cc_Pa_readSign 29 = .ok (.ireturn, 1) := by decide +kernel
theorem dd_Pa_readLabel_0 : decode cc_Pa_readLabel 0 = .ok (.aload_n 0, 1) := by decide +kernel
theorem dd_Pa_readLabel_1 : decode cc_Pa_readLabel 1 = .ok (.getfield 9, 3) := by decide +kernel
theorem dd_Pa_readLabel_4 : decode cc_Pa_readLabel 4 = .ok (.aload_n 0, 1) := by decide +kernel
theorem dd_Pa_readLabel_5 : decode cc_Pa_readLabel 5 = .ok (.getfield 19, 3) := by decide +kernel
theorem dd_Pa_readLabel_8 : decode cc_Pa_readLabel 8 = .ok (.invokevirtual 55, 3) := by decide +kernel
theorem dd_Pa_readLabel_11 : decode cc_Pa_readLabel 11 = .ok (.invokestatic 107, 3) := by decide +kernel
theorem dd_Pa_readLabel_14 : decode cc_Pa_readLabel 14 = .ok (.ifCond .ne 6, 3) := by decide +kernel
theorem dd_Pa_readLabel_17 : decode cc_Pa_readLabel 17 = .ok (.bipush (-4), 2) := by decide +kernel
theorem dd_Pa_readLabel_19 : decode cc_Pa_readLabel 19 = .ok (.ireturn, 1) := by decide +kernel
theorem dd_Pa_readLabel_20 : decode cc_Pa_readLabel 20 = .ok (.aload_n 0, 1) := by decide +kernel
theorem dd_Pa_readLabel_21 : decode cc_Pa_readLabel 21 = .ok (.aload_n 0, 1) := by decide +kernel
theorem dd_Pa_readLabel_22 : decode cc_Pa_readLabel 22 = .ok (.getfield 9, 3) := by decide +kernel
theorem dd_Pa_readLabel_25 : decode cc_Pa_readLabel 25 = .ok (.aload_n 0, 1) := by decide +kernel
theorem dd_Pa_readLabel_26 : decode cc_Pa_readLabel 26 = .ok (.getfield 19, 3) := by decide +kernel
theorem dd_Pa_readLabel_29 : decode cc_Pa_readLabel 29 = .ok (.invokevirtual 55, 3) := by decide +kernel
theorem dd_Pa_readLabel_32 : decode cc_Pa_readLabel 32 = .ok (.bipush 48, 2) := by decide +kernel
theorem dd_Pa_readLabel_34 : decode cc_Pa_readLabel 34 = .ok (.isub, 1) := by decide +kernel
theorem dd_Pa_readLabel_35 : decode cc_Pa_readLabel 35 = .ok (.i2l, 1) := by decide +kernel
theorem dd_Pa_readLabel_36 : decode cc_Pa_readLabel 36 = .ok (.putfield 45, 3) := by decide +kernel
theorem dd_Pa_readLabel_39 : decode cc_Pa_readLabel 39 = .ok (.aload_n 0, 1) := by decide +kernel
theorem dd_Pa_readLabel_40 : decode cc_Pa_readLabel 40 = .ok (.dup, 1) := by decide +kernel
theorem dd_Pa_readLabel_41 : decode cc_Pa_readLabel 41 = .ok (.getfield 19, 3) := by decide +kernel
theorem dd_Pa_readLabel_44 : decode cc_Pa_readLabel 44 = .ok (.iconst 1, 1) := by decide +kernel
theorem dd_Pa_readLabel_45 : decode cc_Pa_readLabel 45 = .ok (.iadd, 1) := by decide +kernel
theorem dd_Pa_readLabel_46 : decode cc_Pa_readLabel 46 = .ok (.putfield 19, 3) := by decide +kernel
theorem dd_Pa_readLabel_49 : decode cc_Pa_readLabel 49 = .ok (.aload_n 0, 1) := by decide +kernel
theorem dd_Pa_readLabel_50 : decode cc_Pa_readLabel 50 = .ok (.getfield 45, 3) := by decide +kernel
theorem dd_Pa_readLabel_53 : decode cc_Pa_readLabel 53 = .ok (.ldc2_w 111, 3) := by decide +kernel
theorem dd_Pa_readLabel_56 : decode cc_Pa_readLabel 56 = .ok (.lcmp, 1) := by decide +kernel
theorem dd_Pa_readLabel_57 : decode cc_Pa_readLabel 57 = .ok (.ifCond .le 8, 3) := by decide +kernel
theorem dd_Pa_readLabel_60 : decode cc_Pa_readLabel 60 = .ok (.bipush (-5), 2) := by decide +kernel
theorem dd_Pa_readLabel_62 : decode cc_Pa_readLabel 62 = .ok (.goto 4, 3) := by decide +kernel
theorem dd_Pa_readLabel_65 : decode cc_Pa_readLabel 65 = .ok (.iconst 0, 1) := by decide +kernel
theorem dd_Pa_readLabel_66 : decode cc_Pa_readLabel 66 = .ok (.ireturn, 1) := by decide +kernel
theorem dd_Pa_readNumber_0 : decode cc_Pa_readNumber 0 = .ok (.iconst 0, 1) := by decide +kernel
theorem dd_Pa_readNumber_1 : decode cc_Pa_readNumber 1 = .ok (.istore_n 3, 1) := by decide +kernel
theorem dd_Pa_readNumber_2 : decode cc_Pa_readNumber 2 = .ok (.aload_n 0, 1) := by decide +kernel
theorem dd_Pa_readNumber_3 : decode cc_Pa_readNumber 3 = .ok (.lconst 0, 1) := by decide +kernel
theorem dd_Pa_readNumber_4 : decode cc_Pa_readNumber 4 = .ok (.putfield 45, 3) := by decide +kernel
theorem dd_Pa_readNumber_7 : decode cc_Pa_readNumber 7 = .ok (.iload_n 3, 1) := by decide +kernel
theorem dd_Pa_readNumber_8 : decode cc_Pa_readNumber 8 = .ok (.bipush 10, 2) := by decide +kernel
theorem dd_Pa_readNumber_10 : decode cc_Pa_readNumber 10 = .ok (.if_icmp .ge 82, 3) := by decide +kernel
theorem dd_Pa_readNumber_13 : decode cc_Pa_readNumber 13 = .ok (.aload_n 0, 1) := by decide +kernel
theorem dd_Pa_readNumber_14 : decode cc_Pa_readNumber 14 = .ok (.getfield 9, 3) := by decide +kernel
theorem dd_Pa_readNumber_17 : decode cc_Pa_readNumber 17 = .ok (.aload_n 0, 1) := by decide +kernel
theorem dd_Pa_readNumber_18 : decode cc_Pa_readNumber 18 = .ok (.getfield 19, 3) := by decide +kernel
theorem dd_Pa_readNumber_21 : decode cc_Pa_readNumber 21 = .ok (.invokevirtual 55, 3) := by decide +kernel
theorem dd_Pa_readNumber_24 : decode cc_Pa_readNumber 24 = .ok (.invokestatic 107, 3) := by decide +kernel
theorem dd_Pa_readNumber_27 : decode cc_Pa_readNumber 27 = .ok (.ifCond .eq 65, 3) := by decide +kernel
theorem dd_Pa_readNumber_30 : decode cc_Pa_readNumber 30 = .ok (.iload_n 3, 1) := by decide +kernel
theorem dd_Pa_readNumber_31 : decode cc_Pa_readNumber 31 = .ok (.iconst 1, 1) := by decide +kernel
theorem dd_Pa_readNumber_32 : decode cc_Pa_readNumber 32 = .ok (.if_icmp .ne 15, 3) := by decide +kernel
theorem dd_Pa_readNumber_35 : decode cc_Pa_readNumber 35 = .ok (.aload_n 0, 1) := by decide +kernel
theorem dd_Pa_readNumber_36 : decode cc_Pa_readNumber 36 = .ok (.getfield 45, 3) := by decide +kernel
theorem dd_Pa_readNumber_39 : decode cc_Pa_readNumber 39 = .ok (.lconst 0, 1) := by decide +kernel
theorem dd_Pa_readNumber_40 : decode cc_Pa_readNumber 40 = .ok (.lcmp, 1) := by decide +kernel
theorem dd_Pa_readNumber_41 : decode cc_Pa_readNumber 41 = .ok (.ifCond .ne 6, 3) := by decide +kernel
theorem dd_Pa_readNumber_44 : decode cc_Pa_readNumber 44 = .ok (.bipush (-4), 2) := by decide +kernel
theorem dd_Pa_readNumber_46 : decode cc_Pa_readNumber 46 = .ok (.ireturn, 1) := by decide +kernel
theorem dd_Pa_readNumber_47 : decode cc_Pa_readNumber 47 = .ok (.aload_n 0, 1) := by decide +kernel
theorem dd_Pa_readNumber_48 : decode cc_Pa_readNumber 48 = .ok (.ldc2_w 113, 3) := by decide +kernel
theorem dd_Pa_readNumber_51 : decode cc_Pa_readNumber 51 = .ok (.aload_n 0, 1) := by decide +kernel
theorem dd_Pa_readNumber_52 : decode cc_Pa_readNumber 52 = .ok (.getfield 45, 3) := by decide +kernel
theorem dd_Pa_readNumber_55 : decode cc_Pa_readNumber 55 = .ok (.lmul, 1) := by decide +kernel
theorem dd_Pa_readNumber_56 : decode cc_Pa_readNumber 56 = .ok (.aload_n 0, 1) := by decide +kernel
theorem dd_Pa_readNumber_57 : decode cc_Pa_readNumber 57 = .ok (.getfield 9, 3) := by decide +kernel
theorem dd_Pa_readNumber_60 : decode cc_Pa_readNumber 60 = .ok (.aload_n 0, 1) := by decide +kernel
theorem dd_Pa_readNumber_61 : decode cc_Pa_readNumber 61 = .ok (.getfield 19, 3) := by decide +kernel
theorem dd_Pa_readNumber_64 : decode cc_Pa_readNumber 64 = .ok (.invokevirtual 55, 3) := by decide +kernel
theorem dd_Pa_readNumber_67 : decode cc_Pa_readNumber 67 = .ok (.i2l, 1) := by decide +kernel
theorem dd_Pa_readNumber_68 : decode cc_Pa_readNumber 68 = .ok (.ladd, 1) := by decide +kernel
theorem dd_Pa_readNumber_69 : decode cc_Pa_readNumber 69 = .ok (.ldc2_w 115, 3) := by decide +kernel
theorem dd_Pa_readNumber_72 : decode cc_Pa_readNumber 72 = .ok (.lsub, 1) := by decide +kernel
theorem dd_Pa_readNumber_73 : decode cc_Pa_readNumber 73 = .ok (.putfield 45, 3) := by decide +kernel
theorem dd_Pa_readNumber_76 : decode cc_Pa_readNumber 76 = .ok (.aload_n 0, 1) := by decide +kernel
theorem dd_Pa_readNumber_77 : decode cc_Pa_readNumber 77 = .ok (.dup, 1) := by decide +kernel
theorem dd_Pa_readNumber_78 : decode cc_Pa_readNumber 78 = .ok (.getfield 19, 3) := by decide +kernel
theorem dd_Pa_readNumber_81 : decode cc_Pa_readNumber 81 = .ok (.iconst 1, 1) := by decide +kernel
theorem dd_Pa_readNumber_82 : decode cc_Pa_readNumber 82 = .ok (.iadd, 1) := by decide +kernel
theorem dd_Pa_readNumber_83 : decode cc_Pa_readNumber 83 = .ok (.putfield 19, 3) := by decide +kernel
theorem dd_Pa_readNumber_86 : decode cc_Pa_readNumber 86 = .ok (.iinc 3 1, 3) := by decide +kernel
theorem dd_Pa_readNumber_89 : decode cc_Pa_readNumber 89 = .ok (.goto (-82), 3) := by decide +kernel
theorem dd_Pa_readNumber_92 : decode cc_Pa_readNumber 92 = .ok (.iload_n 3, 1) := by decide +kernel
theorem dd_Pa_readNumber_93 : decode cc_Pa_readNumber 93 = .ok (.ifCond .eq 20, 3) := by decide +kernel
theorem dd_Pa_readNumber_96 : decode cc_Pa_readNumber 96 = .ok (.aload_n 0, 1) := by decide +kernel
theorem dd_Pa_readNumber_97 : decode cc_Pa_readNumber 97 = .ok (.getfield 9, 3) := by decide +kernel
theorem dd_Pa_readNumber_100 : decode cc_Pa_readNumber 100 = .ok (.aload_n 0, 1) := by decide +kernel
theorem dd_Pa_readNumber_101 : decode cc_Pa_readNumber 101 = .ok (.getfield 19, 3) := by decide +kernel
theorem dd_Pa_readNumber_104 : decode cc_Pa_readNumber 104 = .ok (.invokevirtual 55, 3) := by decide +kernel
theorem dd_Pa_readNumber_107 : decode cc_Pa_readNumber 107 = .ok (.invokestatic 107, 3) := by decide +kernel
theorem dd_Pa_readNumber_110 : decode cc_Pa_readNumber 110 = .ok (.ifCond .eq 6, 3) := by decide +kernel
theorem dd_Pa_readNumber_113 : decode cc_Pa_readNumber 113 = .ok (.bipush (-4), 2) := by decide +kernel
theorem dd_Pa_readNumber_115 : decode cc_Pa_readNumber 115 = .ok (.ireturn, 1) := by decide +kernel
theorem dd_Pa_readNumber_116 : decode cc_Pa_readNumber 116 = .ok (.aload_n 0, 1) := by decide +kernel
theorem dd_Pa_readNumber_117 : decode cc_Pa_readNumber 117 = .ok (.getfield 45, 3) := by decide +kernel
theorem dd_Pa_readNumber_120 : decode cc_Pa_readNumber 120 = .ok (.lload_n 1, 1) := by decide +kernel
theorem dd_Pa_readNumber_121 : decode cc_Pa_readNumber 121 = .ok (.lcmp, 1) := by decide +kernel
theorem dd_Pa_readNumber_122 : decode cc_Pa_readNumber 122 = .ok (.ifCond .le 8, 3) := by decide +kernel
theorem dd_Pa_readNumber_125 : decode cc_Pa_readNumber 125 = .ok (.bipush (-5), 2) := by decide +kernel
theorem dd_Pa_readNumber_127 : decode cc_Pa_readNumber 127 = .ok (.goto 4, 3) := by decide +kernel
theorem dd_Pa_readNumber_130 : decode cc_Pa_readNumber 130 = .ok (.iconst 0, 1) := by decide +kernel
theorem dd_Pa_readNumber_131 : decode cc_Pa_readNumber 131 = .ok (.ireturn, 1) := by decide +kernel
theorem dd_Pa_readState_0 : decode cc_Pa_readState 0 = .ok (.aload_n 0, 1) := by decide +kernel
theorem dd_Pa_readState_1 : decode cc_Pa_readState 1 = .ok (.aload_n 0, 1) := by decide +kernel
theorem dd_Pa_readState_2 : decode cc_Pa_readState 2 = .ok (.getfield 15, 3) := by decide +kernel
theorem dd_Pa_readState_5 : decode cc_Pa_readState 5 = .ok (.getfield 102, 3) := by decide +kernel
theorem dd_Pa_readState_8 : decode cc_Pa_readState 8 = .ok (.iconst 1, 1) := by decide +kernel
theorem dd_Pa_readState_9 : decode cc_Pa_readState 9 = .ok (.isub, 1) := by decide +kernel
theorem dd_Pa_readState_10 : decode cc_Pa_readState 10 = .ok (.i2l, 1) := by decide +kernel
theorem dd_Pa_readState_11 : decode cc_Pa_readState 11 = .ok (.invokevirtual 41, 3) := by decide +kernel
theorem dd_Pa_readState_14 : decode cc_Pa_readState 14 = .ok (.ireturn, 1) := by decide +kernel
theorem dd_Pa_readWeight_0 : decode cc_Pa_readWeight 0 = .ok (.aload_n 0, 1) := by decide +kernel
theorem dd_Pa_readWeight_1 : decode cc_Pa_readWeight 1 = .ok (.bipush 47, 2) := by decide +kernel
theorem dd_Pa_readWeight_3 : decode cc_Pa_readWeight 3 = .ok (.invokevirtual 35, 3) := by decide +kernel
theorem dd_Pa_readWeight_6 : decode cc_Pa_readWeight 6 = .ok (.istore_n 1, 1) := by decide +kernel
theorem dd_Pa_readWeight_7 : decode cc_Pa_readWeight 7 = .ok (.iload_n 1, 1) := by decide +kernel
theorem dd_Pa_readWeight_8 : decode cc_Pa_readWeight 8 = .ok (.ifCond .eq 7, 3) := by decide +kernel
theorem dd_Pa_readWeight_11 : decode cc_Pa_readWeight 11 = .ok (.iload_n 1, 1) := by decide +kernel
theorem dd_Pa_readWeight_12 : decode cc_Pa_readWeight 12 = .ok (.goto 10, 3) := by decide +kernel
theorem dd_Pa_readWeight_15 : decode cc_Pa_readWeight 15 = .ok (.aload_n 0, 1) := by decide +kernel
theorem dd_Pa_readWeight_16 : decode cc_Pa_readWeight 16 = .ok (.ldc2_w 105, 3) := by decide +kernel
theorem dd_Pa_readWeight_19 : decode cc_Pa_readWeight 19 = .ok (.invokevirtual 41, 3) := by decide +kernel
theorem dd_Pa_readWeight_22 : decode cc_Pa_readWeight 22 = .ok (.istore_n 1, 1) := by decide +kernel
theorem dd_Pa_readWeight_23 : decode cc_Pa_readWeight 23 = .ok (.iload_n 1, 1) := by decide +kernel
theorem dd_Pa_readWeight_24 : decode cc_Pa_readWeight 24 = .ok (.ifCond .eq 7, 3) := by decide +kernel
theorem dd_Pa_readWeight_27 : decode cc_Pa_readWeight 27 = .ok (.iload_n 1, 1) := by decide +kernel
theorem dd_Pa_readWeight_28 : decode cc_Pa_readWeight 28 = .ok (.goto 9, 3) := by decide +kernel
theorem dd_Pa_readWeight_31 : decode cc_Pa_readWeight 31 = .ok (.aload_n 0, 1) := by decide +kernel
theorem dd_Pa_readWeight_32 : decode cc_Pa_readWeight 32 = .ok (.bipush 59, 2) := by decide +kernel
theorem dd_Pa_readWeight_34 : decode cc_Pa_readWeight 34 = .ok (.invokevirtual 35, 3) := by decide +kernel
theorem dd_Pa_readWeight_37 : decode cc_Pa_readWeight 37 = .ok (.ireturn, 1) := by decide +kernel
/-! PARSING -/
def pr_dg (o : Option Nat) : Bool := match o with
  | none => false
  | some c => decide (48 ≤ c) && decide (c ≤ 57)
def pr_v (o : Option Nat) : Nat := match o with
  | none => 0
  | some c => c - 48
def pr_more (X : List Nat) : Nat → Nat → Nat → Nat × Nat
  | 0, k, v => (k, v)
  | m + 1, k, v => if pr_dg X[k]? = true then pr_more X m (k + 1) (10 * v + pr_v X[k]?) else (k, v)
theorem pr_more_s {X : List Nat} {m k v : Nat} (h : pr_dg X[k]? = true) : pr_more X (m + 1) k v = pr_more X m (k + 1) (10 * v + pr_v X[k]?) := if_pos h
theorem pr_more_n {X : List Nat} {m k v : Nat} (h : pr_dg X[k]? = false) : pr_more X (m + 1) k v = (k, v) := if_neg (by rw [h]; decide)
def pr_fin (X : List Nat) (lim : Nat) (x : Nat × Nat) : Int32 ⊕ (Nat × Nat) := if pr_dg X[x.1]? = true then .inl (-4) else if x.2 < lim then .inr x else .inl (-5)
def pr_num (X : List Nat) (lim k : Nat) : Int32 ⊕ (Nat × Nat) := if pr_dg X[k]? = true then pr_fin X lim (if pr_v X[k]? = 0 then (k + 1, 0) else pr_more X 9 (k + 1) (pr_v X[k]?)) else .inl (-4)
def pr_sgn (X : List Nat) (c k : Nat) : Int32 ⊕ Nat := if X[k]? = some c then .inr (k + 1) else .inl (-4)
def pr_lab (X : List Nat) (k : Nat) : Int32 ⊕ (Nat × Nat) := if pr_dg X[k]? = true then if pr_v X[k]? < 8 then .inr (k + 1, pr_v X[k]?) else .inl (-5) else .inl (-4)
def pr_bd {A B : Type} (x : Int32 ⊕ A) (f : A → Int32 ⊕ B) : Int32 ⊕ B := match x with
  | .inl e => .inl e
  | .inr y => f y
theorem pr_bdl {A B : Type} {x : Int32 ⊕ A} {f : A → Int32 ⊕ B} {e : Int32} (h : x = .inl e) : pr_bd x f = .inl e := by rw [h]; rfl
theorem pr_bdr {A B : Type} {x : Int32 ⊕ A} {f : A → Int32 ⊕ B} {y : A} (h : x = .inr y) : pr_bd x f = f y := by rw [h]; rfl
/-- a slash, a weight, a semicolon -/
def pr_wt (X : List Nat) (k : Nat) : Int32 ⊕ (Nat × Nat) := pr_bd (pr_sgn X 47 k) fun k1 => pr_bd (pr_num X 1000000001 k1) fun x => pr_bd (pr_sgn X 59 x.1) fun k3 => .inr (k3, x.2)
theorem pr_dg_some {o : Option Nat} (h : pr_dg o = true) : ∃ c, o = some c ∧ 48 ≤ c ∧ c ≤ 57 := by
  cases o with
  | none => cases h
  | some c =>
    unfold pr_dg at h
    rw [Bool.and_eq_true, decide_eq_true_eq, decide_eq_true_eq] at h
    exact ⟨c, rfl, h.1, h.2⟩
theorem pr_at {X : List Nat} {k c : Nat} (h : X[k]? = some c) : k < X.length := (List.getElem?_eq_some_iff.mp h).1
theorem pr_dg_at {X : List Nat} {k : Nat} (h : pr_dg X[k]? = true) : k < X.length := by
  obtain ⟨c, hc, -⟩ := pr_dg_some h
  exact pr_at hc
theorem pr_v_le {o : Option Nat} (h : pr_dg o = true) : pr_v o ≤ 9 := by
  obtain ⟨c, rfl, h1, h2⟩ := pr_dg_some h
  show c - 48 ≤ 9
  omega
theorem pr_more_at {X : List Nat} : ∀ m k v, k ≤ X.length → k ≤ (pr_more X m k v).1 ∧ (pr_more X m k v).1 ≤ X.length
  | 0, k, v, h => ⟨Nat.le_refl _, h⟩
  | m + 1, k, v, h => by
    unfold pr_more
    split
    · rename_i hd
      have := pr_more_at m (k + 1) (10 * v + pr_v X[k]?) (pr_dg_at hd)
      omega
    · exact ⟨Nat.le_refl _, h⟩
theorem pr_fin_r {X : List Nat} {lim : Nat} {x y : Nat × Nat} (h : pr_fin X lim x = .inr y) : x = y ∧ y.2 < lim := by
  unfold pr_fin at h
  split at h
  · cases h
  · split at h
    · rename_i h2
      cases h
      exact ⟨rfl, h2⟩
    · cases h
theorem pr_num_r {X : List Nat} {lim k k2 v : Nat} (h : pr_num X lim k = .inr (k2, v)) : k < k2 ∧ k2 ≤ X.length ∧ v < lim := by
  unfold pr_num at h
  split at h
  · rename_i hd
    have hk := pr_dg_at hd
    obtain ⟨h1, h2⟩ := pr_fin_r h
    split at h1
    · cases h1
      exact ⟨Nat.lt_succ_self _, hk, h2⟩
    · have h3 := pr_more_at (X := X) 9 (k + 1) (pr_v X[k]?) hk
      rw [h1] at h3
      exact ⟨by omega, h3.2, h2⟩
  · cases h
theorem pr_sgn_r {X : List Nat} {c k k2 : Nat} (h : pr_sgn X c k = .inr k2) : k < k2 ∧ k2 ≤ X.length := by
  unfold pr_sgn at h
  split at h
  · rename_i hc
    have hk := pr_at hc
    cases h
    exact ⟨Nat.lt_succ_self _, hk⟩
  · cases h
theorem pr_lab_r {X : List Nat} {k k2 v : Nat} (h : pr_lab X k = .inr (k2, v)) : k < k2 ∧ k2 ≤ X.length ∧ v < 8 := by
  unfold pr_lab at h
  split at h
  · rename_i hd
    have hk := pr_dg_at hd
    split at h
    · rename_i h8
      cases h
      exact ⟨Nat.lt_succ_self _, hk, h8⟩
    · cases h
  · cases h
theorem pr_wt_r {X : List Nat} {k k2 v : Nat} (h : pr_wt X k = .inr (k2, v)) : k < k2 ∧ k2 ≤ X.length ∧ v < 1000000001 := by
  unfold pr_wt at h
  rcases h1 : pr_sgn X 47 k with e | k1
  · rw [pr_bdl h1] at h; cases h
  · rw [pr_bdr h1] at h
    rcases h2 : pr_num X 1000000001 k1 with e | ⟨k3, w⟩
    · rw [pr_bdl h2] at h; cases h
    · rw [pr_bdr h2] at h
      rcases h3 : pr_sgn X 59 k3 with e | k4
      · have h := h
        rw [pr_bdl (x := pr_sgn X 59 (k3, w).1) h3] at h
        cases h
      · rw [pr_bdr (x := pr_sgn X 59 (k3, w).1) h3] at h
        cases h
        have a1 := pr_sgn_r h1
        have a2 := pr_num_r h2
        have a3 := pr_sgn_r h3
        exact ⟨by omega, a3.2, a2.2.2⟩
abbrev pa_c (ad : Nat → Nat) (i : Nat) (x : Int32) (y : Int64) : va_E := .inr (6, [.ref (ad 40), .ref (ad (2 + 4 * i)), .int x, .long y])
def pa_f (v : Option Value) (ad : Nat → Nat) (i : Nat) (r : Nat → va_E) (f : Int32) : Prop := v = some (.int f) ∧ f ≠ 0 ∧ ∃ x y, r 42 = pa_c ad i x y
def pa_s (v : Option Value) (ad : Nat → Nat) (i : Nat) (r : Nat → va_E) (y : Int64) (R : Int32 ⊕ Nat) : Prop := match R with
  | .inl f => pa_f v ad i r f
  | .inr k => v = some (.int (nI 0)) ∧ r 42 = pa_c ad i (nI k) y
def pa_q (v : Option Value) (ad : Nat → Nat) (i : Nat) (r : Nat → va_E) (R : Int32 ⊕ (Nat × Nat)) : Prop := match R with
  | .inl f => pa_f v ad i r f
  | .inr x => v = some (.int (nI 0)) ∧ r 42 = pa_c ad i (nI x.1) (lN x.2)
theorem te_at_r {dA : Nat → ClassId} {ad : Nat → Nat} {r r2 : Nat → va_E} {X : List Nat} (h : te_at dA ad r X) (h2 : ∀ k, k ≠ 42 → r2 k = r k) : te_at dA ad r2 X := by
  obtain ⟨h1, ⟨f, hf, hg⟩, h3⟩ := h
  exact ⟨(h2 40 (by decide)).trans h1, ⟨f, (h2 41 (by decide)).trans hf, hg⟩, h3⟩
set_option maxRecDepth 100000 in
set_option maxHeartbeats 4000000 in
theorem ct_Pa_isDigit (l : Launch) (D : va_G) (dA : Nat → ClassId) (ws : va_W) {o : Option Nat} (ho : ∀ c, o = some c → c < 65536) : gx_Ct l D dA yy_Pa_isDigit cc_Pa_isDigit 1 (some .boolean) 0 0 0 [.int (on_r o)] ws (fun v w => v = some (.int (nI (pr_dg o).toNat)) ∧ w = ws) := by
  refine gx_of (by decide) (Nat.le_of_ble_eq_true rfl) (fun K C _ _ => ?_)
  refine gx_iload_n C 0 dd_Pa_isDigit_0 (kk := ?_)
  refine gx_bipush (v := nI 48) C dd_Pa_isDigit_1 (kk := ?_)
  refine gx_icmp_lt C 16 dd_Pa_isDigit_3 (fun h3 => ?_) (fun h3 => ?_)
  · refine gx_iconst (v := nI 0) C dd_Pa_isDigit_16 (kk := ?_)
    refine gx_zret C dd_Pa_isDigit_17 (by first | rfl | exact fb_nar) ?_
    refine ⟨?_, rfl⟩
    cases o with
    | none => rfl
    | some c =>
      have hc := ho c rfl
      have h3 : nI c < nI 48 := h3
      rw [nI_ltI (by omega) (by decide)] at h3
      have hd : pr_dg (some c) = false := by
        show (decide (48 ≤ c) && decide (c ≤ 57)) = false
        rw [decide_eq_false (show ¬ 48 ≤ c by omega)]
        rfl
      rw [hd]
      rfl
  · refine gx_iload_n C 0 dd_Pa_isDigit_6 (kk := ?_)
    refine gx_bipush (v := nI 57) C dd_Pa_isDigit_7 (kk := ?_)
    refine gx_icmp_gt C 16 dd_Pa_isDigit_9 (fun h9 => ?_) (fun h9 => ?_)
    · refine gx_iconst (v := nI 0) C dd_Pa_isDigit_16 (kk := ?_)
      refine gx_zret C dd_Pa_isDigit_17 (by first | rfl | exact fb_nar) ?_
      refine ⟨?_, rfl⟩
      cases o with
      | none => exact absurd (show (-1 : Int32) < nI 48 by decide) h3
      | some c =>
        have hc := ho c rfl
        have h9 : nI 57 < nI c := h9
        rw [nI_ltI (by decide) (by omega)] at h9
        have hd : pr_dg (some c) = false := by
          show (decide (48 ≤ c) && decide (c ≤ 57)) = false
          rw [decide_eq_false (show ¬ c ≤ 57 by omega), Bool.and_false]
        rw [hd]
        rfl
    · refine gx_iconst (v := nI 1) C dd_Pa_isDigit_12 (kk := ?_)
      refine gx_goto C 17 dd_Pa_isDigit_13 (kk := ?_)
      refine gx_zret C dd_Pa_isDigit_17 (by first | rfl | exact fb_nar) ?_
      refine ⟨?_, rfl⟩
      cases o with
      | none => exact absurd (show (-1 : Int32) < nI 48 by decide) h3
      | some c =>
        have hc := ho c rfl
        have h3 : ¬ nI c < nI 48 := h3
        have h9 : ¬ nI 57 < nI c := h9
        rw [nI_ltI (by omega) (by decide)] at h3
        rw [nI_ltI (by decide) (by omega)] at h9
        have hd : pr_dg (some c) = true := by
          show (decide (48 ≤ c) && decide (c ≤ 57)) = true
          rw [decide_eq_true (show 48 ≤ c by omega), decide_eq_true (show c ≤ 57 by omega)]
          rfl
        rw [hd]
        rfl
set_option maxRecDepth 100000 in
set_option maxHeartbeats 4000000 in
theorem ct_Pa_readSign (l : Launch) (D : va_G) (dA : Nat → ClassId) (ad : Nat → Nat) (mm : Nat → gm_V) (r : Nat → va_E) {X : List Nat} (hX : te_at dA ad r X) {im : Nat} {k : Nat} (hk : k ≤ X.length) {c : Nat} {y : Int64} (hc : c < 65536) (h42 : r 42 = pa_c ad im (nI k) y) : gx_Ct l D dA yy_Pa_readSign cc_Pa_readSign 2 (some .int) 1 0 0 [.ref (ad 42), .int (nI c)] (gx_w ad (gm_h dA ad mm r)) (fun v w => ∃ r2, w = gx_w ad (gm_h dA ad mm r2) ∧ (∀ j, j ≠ 42 → r2 j = r j) ∧ pa_s v ad im r2 y (pr_sgn X c k)) := by
  refine gx_of (by decide) (Nat.le_of_ble_eq_true rfl) (fun K C _ _ => ?_)
  have hl16 := hX.2.2.1
  refine gx_aload_n C 0 dd_Pa_readSign_0 (kk := ?_)
  refine gx_get C fd_Pa_9 (gm_r h42) dd_Pa_readSign_1 (kk := ?_)
  refine gx_aload_n C 0 dd_Pa_readSign_4 (kk := ?_)
  refine gx_get C fd_Pa_19 (gm_r h42) dd_Pa_readSign_5 (kk := ?_)
  refine gx_callV C (ct_Te_codeAt (gx_l K) D dA ad mm r hX (k := k) (by omega)) me_Te_codeAt ml_Pa_55 mn_Te_codeAt _ (gx_w_at (by decide) (gm_r hX.1)) rfl dd_Pa_readSign_8 (kk := fun v w hq => ?_)
  obtain ⟨rfl, rfl⟩ := hq
  refine gx_iload_n C 1 dd_Pa_readSign_11 (kk := ?_)
  refine gx_icmp_eq C 18 dd_Pa_readSign_12 (fun h12 => ?_) (fun h12 => ?_)
  · have hcc : on_r X[k]? = nI c ↔ X[k]? = some c := by
      cases hx : X[k]? with
      | none => exact ⟨fun h => absurd h.symm (nI_m1 (by omega)), fun h => by cases h⟩
      | some d =>
        have hd := hX.2.2.2 d (List.mem_of_getElem? hx)
        exact ⟨fun h => by rw [(nI_eq (a := d) (by omega) (by omega)).mp h], fun h => by cases h; rfl⟩
    rw [hcc] at h12
    refine gx_aload_n C 0 dd_Pa_readSign_18 (kk := ?_)
    refine gx_dup C dd_Pa_readSign_19 (kk := ?_)
    refine gx_get C fd_Pa_19 (gm_r h42) dd_Pa_readSign_20 (kk := ?_)
    refine gx_iconst (v := nI 1) C dd_Pa_readSign_23 (kk := ?_)
    refine gx_iadd C dd_Pa_readSign_24 (kk := ?_)
    refine gx_topi _ (nI_add _ _) ?_
    refine gz_put C fw_Pa_19 h42 dd_Pa_readSign_25 (kk := fun r2 hr2 => ?_)
    refine gx_iconst (v := nI 0) C dd_Pa_readSign_28 (kk := ?_)
    refine gx_iret C dd_Pa_readSign_29 ?_
    refine ⟨r2, rfl, fun j hj => by rw [hr2, gm_un hj], ?_⟩
    rw [pr_sgn, if_pos h12]
    exact ⟨rfl, by rw [hr2, gm_us]; rfl⟩
  · have hcc : on_r X[k]? = nI c ↔ X[k]? = some c := by
      cases hx : X[k]? with
      | none => exact ⟨fun h => absurd h.symm (nI_m1 (by omega)), fun h => by cases h⟩
      | some d =>
        have hd := hX.2.2.2 d (List.mem_of_getElem? hx)
        exact ⟨fun h => by rw [(nI_eq (a := d) (by omega) (by omega)).mp h], fun h => by cases h; rfl⟩
    rw [hcc] at h12
    refine gx_bipush (v := -4) C dd_Pa_readSign_15 (kk := ?_)
    refine gx_iret C dd_Pa_readSign_17 ?_
    refine ⟨r, rfl, fun _ _ => rfl, ?_⟩
    rw [pr_sgn, if_neg h12]
    exact ⟨rfl, by decide, _, _, h42⟩
theorem gx_topi2 {K : gx_K} {D : va_G} {nL k n pc : Nat} {lv : List (Nat × Value)} {st : List Value} {ws : va_W} {Z : State → Prop} {u : Value} {a : Int32} (b : Int32) (h : a = b) (kk : gx_G K D nL k n pc lv (u :: .int b :: st) ws Z) : gx_G K D nL k n pc lv (u :: .int a :: st) ws Z := h ▸ kk
set_option maxRecDepth 100000 in
set_option maxHeartbeats 4000000 in
theorem ct_Pa_readLabel (l : Launch) (D : va_G) (dA : Nat → ClassId) (ad : Nat → Nat) (mm : Nat → gm_V) (r : Nat → va_E) {X : List Nat} (hX : te_at dA ad r X) {im : Nat} {k : Nat} (hk : k ≤ X.length) {y : Int64} (h42 : r 42 = pa_c ad im (nI k) y) : gx_Ct l D dA yy_Pa_readLabel cc_Pa_readLabel 1 (some .int) 1 0 0 [.ref (ad 42)] (gx_w ad (gm_h dA ad mm r)) (fun v w => ∃ r2, w = gx_w ad (gm_h dA ad mm r2) ∧ (∀ j, j ≠ 42 → r2 j = r j) ∧ pa_q v ad im r2 (pr_lab X k)) := by
  refine gx_of (by decide) (Nat.le_of_ble_eq_true rfl) (fun K C _ _ => ?_)
  have hl16 := hX.2.2.1
  refine gx_aload_n C 0 dd_Pa_readLabel_0 (kk := ?_)
  refine gx_get C fd_Pa_9 (gm_r h42) dd_Pa_readLabel_1 (kk := ?_)
  refine gx_aload_n C 0 dd_Pa_readLabel_4 (kk := ?_)
  refine gx_get C fd_Pa_19 (gm_r h42) dd_Pa_readLabel_5 (kk := ?_)
  refine gx_callV C (ct_Te_codeAt (gx_l K) D dA ad mm r hX (k := k) (by omega)) me_Te_codeAt ml_Pa_55 mn_Te_codeAt _ (gx_w_at (by decide) (gm_r hX.1)) rfl dd_Pa_readLabel_8 (kk := fun v w hq => ?_)
  obtain ⟨rfl, rfl⟩ := hq
  refine gx_callS C (ct_Pa_isDigit (gx_l K) D dA _ (o := X[k]?) (fun c hc => hX.2.2.2 c (List.mem_of_getElem? hc))) me_Pa_isDigit ml_Pa_107 ms_Pa_isDigit dd_Pa_readLabel_11 (kk := fun v w hq => ?_)
  obtain ⟨rfl, rfl⟩ := hq
  refine gx_if_ne C 20 dd_Pa_readLabel_14 (fun h14 => ?_) (fun h14 => ?_)
  · have hd : pr_dg X[k]? = true := ts_nf (fun e => h14 (fb_0.mpr e))
    obtain ⟨c, hx, hc1, hc2⟩ := pr_dg_some hd
    refine gx_aload_n C 0 dd_Pa_readLabel_20 (kk := ?_)
    refine gx_aload_n C 0 dd_Pa_readLabel_21 (kk := ?_)
    refine gx_get C fd_Pa_9 (gm_r h42) dd_Pa_readLabel_22 (kk := ?_)
    refine gx_aload_n C 0 dd_Pa_readLabel_25 (kk := ?_)
    refine gx_get C fd_Pa_19 (gm_r h42) dd_Pa_readLabel_26 (kk := ?_)
    refine gx_callV C (ct_Te_codeAt (gx_l K) D dA ad mm r hX (k := k) (by omega)) me_Te_codeAt ml_Pa_55 mn_Te_codeAt _ (gx_w_at (by decide) (gm_r hX.1)) rfl dd_Pa_readLabel_29 (kk := fun v w hq => ?_)
    obtain ⟨rfl, rfl⟩ := hq
    refine gx_bipush (v := nI 48) C dd_Pa_readLabel_32 (kk := ?_)
    refine gx_topi2 (nI c) (by rw [hx]; rfl) ?_
    refine gx_isub C dd_Pa_readLabel_34 (kk := ?_)
    refine gx_topi _ (pk_sub hc1) ?_
    refine gx_i2l C dd_Pa_readLabel_35 (w := lN (c - 48)) (hv := nI_l (by omega)) (kk := ?_)
    refine gz_put C fw_Pa_45 h42 dd_Pa_readLabel_36 (kk := fun r2 hr2 => ?_)
    have h42b : r2 42 = pa_c ad im (nI k) (lN (c - 48)) := by rw [hr2, gm_us]; rfl
    refine gx_aload_n C 0 dd_Pa_readLabel_39 (kk := ?_)
    refine gx_dup C dd_Pa_readLabel_40 (kk := ?_)
    refine gx_get C fd_Pa_19 (gm_r h42b) dd_Pa_readLabel_41 (kk := ?_)
    refine gx_iconst (v := nI 1) C dd_Pa_readLabel_44 (kk := ?_)
    refine gx_iadd C dd_Pa_readLabel_45 (kk := ?_)
    refine gx_topi _ (nI_add _ _) ?_
    refine gz_put C fw_Pa_19 h42b dd_Pa_readLabel_46 (kk := fun r3 hr3 => ?_)
    have h42c : r3 42 = pa_c ad im (nI (k + 1)) (lN (c - 48)) := by rw [hr3, gm_us]; rfl
    refine gx_aload_n C 0 dd_Pa_readLabel_49 (kk := ?_)
    refine gx_get C fd_Pa_45 (gm_r h42c) dd_Pa_readLabel_50 (kk := ?_)
    refine gx_ldc2 C dd_Pa_readLabel_53 kc_Pa_111 (kk := ?_)
    refine gx_lcmp C dd_Pa_readLabel_56 (kk := ?_)
    refine gx_if_le C 65 dd_Pa_readLabel_57 (fun h57 => ?_) (fun h57 => ?_)
    · refine gx_iconst (v := nI 0) C dd_Pa_readLabel_65 (kk := ?_)
      refine gx_iret C dd_Pa_readLabel_66 ?_
      refine ⟨r3, rfl, fun j hj => by rw [hr3, gm_un hj, hr2, gm_un hj], ?_⟩
      rw [pr_lab, if_pos hd, hx]
      rw [lc_le, show (7 : Int64) = lN 7 from rfl, pk_lLE (by omega) (by decide)] at h57
      rw [if_pos (show pr_v (some c) < 8 by show c - 48 < 8; omega)]
      exact ⟨rfl, h42c⟩
    · refine gx_bipush (v := -5) C dd_Pa_readLabel_60 (kk := ?_)
      refine gx_goto C 66 dd_Pa_readLabel_62 (kk := ?_)
      refine gx_iret C dd_Pa_readLabel_66 ?_
      refine ⟨r3, rfl, fun j hj => by rw [hr3, gm_un hj, hr2, gm_un hj], ?_⟩
      rw [pr_lab, if_pos hd, hx]
      rw [lc_le, show (7 : Int64) = lN 7 from rfl, pk_lLE (by omega) (by decide)] at h57
      rw [if_neg (show ¬ pr_v (some c) < 8 by show ¬ c - 48 < 8; omega)]
      exact ⟨rfl, by decide, _, _, h42c⟩
  · refine gx_bipush (v := -4) C dd_Pa_readLabel_17 (kk := ?_)
    refine gx_iret C dd_Pa_readLabel_19 ?_
    have hd : pr_dg X[k]? = false := fb_0.mp h14
    refine ⟨r, rfl, fun _ _ => rfl, ?_⟩
    rw [pr_lab, if_neg (by rw [hd]; decide)]
    exact ⟨rfl, by decide, _, _, h42⟩
set_option maxRecDepth 100000 in
set_option maxHeartbeats 4000000 in
theorem ct_Pa_readNumber (l : Launch) (D : va_G) (dA : Nat → ClassId) (ad : Nat → Nat) (mm : Nat → gm_V) (r : Nat → va_E) {X : List Nat} (hX : te_at dA ad r X) {im : Nat} {k : Nat} (hk : k ≤ X.length) {lim : Nat} {most y : Int64} (hm : ∀ v, v < 10000000000 → (most < lN v ↔ lim ≤ v)) (h42 : r 42 = pa_c ad im (nI k) y) : gx_Ct l D dA yy_Pa_readNumber cc_Pa_readNumber 4 (some .int) 1 0 0 [.ref (ad 42), .long most] (gx_w ad (gm_h dA ad mm r)) (fun v w => ∃ r2, w = gx_w ad (gm_h dA ad mm r2) ∧ (∀ j, j ≠ 42 → r2 j = r j) ∧ pa_q v ad im r2 (pr_num X lim k)) := by
  refine gx_of (by decide) (Nat.le_of_ble_eq_true rfl) (fun K C _ _ => ?_)
  have hl16 := hX.2.2.1
  obtain ⟨k0, hk0⟩ : ∃ k0, k0 = k := ⟨_, rfl⟩
  rw [← hk0]
  have fin : ∀ d k v r1, 1 ≤ d → d ≤ 10 → k ≤ X.length → v < 10000000000 → r1 42 = pa_c ad im (nI k) (lN v) → (∀ j, j ≠ 42 → r1 j = r j) → pr_num X lim k0 = pr_fin X lim (k, v) → gx_G K D 4 0 0 92 [(3, .int (nI d)), (0, .ref (ad 42)), (1, .long most)] [] (gx_w ad (gm_h dA ad mm r1)) (gx_Z K D dA 0 0 (fun v w => ∃ r2, w = gx_w ad (gm_h dA ad mm r2) ∧ (∀ j, j ≠ 42 → r2 j = r j) ∧ pa_q v ad im r2 (pr_num X lim k0))) := by
    intro d k v r1 hd1 hd10 hk hv h42 ho1 hR
    have hX1 : te_at dA ad r1 X := te_at_r hX ho1
    refine gx_iload_n C 0 dd_Pa_readNumber_92 (kk := ?_)
    refine gx_if_eq C 113 dd_Pa_readNumber_93 (fun h93 => absurd h93 (nI_ne0 hd1 (by omega))) (fun h93 => ?_)
    refine gx_aload_n C 1 dd_Pa_readNumber_96 (kk := ?_)
    refine gx_get C fd_Pa_9 (gm_r h42) dd_Pa_readNumber_97 (kk := ?_)
    refine gx_aload_n C 1 dd_Pa_readNumber_100 (kk := ?_)
    refine gx_get C fd_Pa_19 (gm_r h42) dd_Pa_readNumber_101 (kk := ?_)
    refine gx_callV C (ct_Te_codeAt (gx_l K) D dA ad mm r1 hX1 (k := k) (by omega)) me_Te_codeAt ml_Pa_55 mn_Te_codeAt _ (gx_w_at (by decide) (gm_r hX1.1)) rfl dd_Pa_readNumber_104 (kk := fun v w hq => ?_)
    obtain ⟨rfl, rfl⟩ := hq
    refine gx_callS C (ct_Pa_isDigit (gx_l K) D dA _ (o := X[k]?) (fun c hc => hX.2.2.2 c (List.mem_of_getElem? hc))) me_Pa_isDigit ml_Pa_107 ms_Pa_isDigit dd_Pa_readNumber_107 (kk := fun v w hq => ?_)
    obtain ⟨rfl, rfl⟩ := hq
    refine gx_if_eq C 116 dd_Pa_readNumber_110 (fun h110 => ?_) (fun h110 => ?_)
    · have hd : pr_dg X[k]? = false := fb_0.mp h110
      refine gx_aload_n C 1 dd_Pa_readNumber_116 (kk := ?_)
      refine gx_get C fd_Pa_45 (gm_r h42) dd_Pa_readNumber_117 (kk := ?_)
      refine gx_lload_n C 2 dd_Pa_readNumber_120 (kk := ?_)
      refine gx_lcmp C dd_Pa_readNumber_121 (kk := ?_)
      refine gx_if_le C 130 dd_Pa_readNumber_122 (fun h122 => ?_) (fun h122 => ?_)
      · refine gx_iconst (v := nI 0) C dd_Pa_readNumber_130 (kk := ?_)
        refine gx_iret C dd_Pa_readNumber_131 ?_
        refine ⟨r1, rfl, ho1, ?_⟩
        rw [hR, pr_fin]
        rw [if_neg (by show ¬ pr_dg X[k]? = true; rw [hd]; decide)]
        rw [lc_le] at h122
        rw [if_pos (show v < lim from Nat.lt_of_not_le (fun e => absurd ((hm v hv).mpr e) (Int64.not_lt.mpr h122)))]
        exact ⟨rfl, h42⟩
      · refine gx_bipush (v := -5) C dd_Pa_readNumber_125 (kk := ?_)
        refine gx_goto C 131 dd_Pa_readNumber_127 (kk := ?_)
        refine gx_iret C dd_Pa_readNumber_131 ?_
        refine ⟨r1, rfl, ho1, ?_⟩
        rw [hR, pr_fin]
        rw [if_neg (by show ¬ pr_dg X[k]? = true; rw [hd]; decide)]
        rw [lc_le] at h122
        rw [if_neg (show ¬ v < lim from fun e => absurd ((hm v hv).mp (Int64.not_le.mp h122)) (by omega))]
        exact ⟨rfl, by decide, _, _, h42⟩
    · have hd : pr_dg X[k]? = true := ts_nf (fun e => h110 (fb_0.mpr e))
      obtain ⟨c, hx, hc1, hc2⟩ := pr_dg_some hd
      refine gx_bipush (v := -4) C dd_Pa_readNumber_113 (kk := ?_)
      refine gx_iret C dd_Pa_readNumber_115 ?_
      refine ⟨r1, rfl, ho1, ?_⟩
      rw [hR, pr_fin]
      rw [if_pos hd]
      exact ⟨rfl, by decide, _, _, h42⟩
  have zero : ∀ k r1, k ≤ X.length → r1 42 = pa_c ad im (nI k) (lN 0) → (∀ j, j ≠ 42 → r1 j = r j) → pr_num X lim k0 = pr_fin X lim (k, 0) → gx_G K D 4 0 0 7 [(3, .int (nI 1)), (0, .ref (ad 42)), (1, .long most)] [] (gx_w ad (gm_h dA ad mm r1)) (gx_Z K D dA 0 0 (fun v w => ∃ r2, w = gx_w ad (gm_h dA ad mm r2) ∧ (∀ j, j ≠ 42 → r2 j = r j) ∧ pa_q v ad im r2 (pr_num X lim k0))) := by
    intro k r1 hk h42 ho1 hR
    have hX1 : te_at dA ad r1 X := te_at_r hX ho1
    refine gx_iload_n C 0 dd_Pa_readNumber_7 (kk := ?_)
    refine gx_bipush (v := nI 10) C dd_Pa_readNumber_8 (kk := ?_)
    refine gx_icmp_ge C 92 dd_Pa_readNumber_10 (fun h10 => absurd h10 (by decide)) (fun h10 => ?_)
    refine gx_aload_n C 1 dd_Pa_readNumber_13 (kk := ?_)
    refine gx_get C fd_Pa_9 (gm_r h42) dd_Pa_readNumber_14 (kk := ?_)
    refine gx_aload_n C 1 dd_Pa_readNumber_17 (kk := ?_)
    refine gx_get C fd_Pa_19 (gm_r h42) dd_Pa_readNumber_18 (kk := ?_)
    refine gx_callV C (ct_Te_codeAt (gx_l K) D dA ad mm r1 hX1 (k := k) (by omega)) me_Te_codeAt ml_Pa_55 mn_Te_codeAt _ (gx_w_at (by decide) (gm_r hX1.1)) rfl dd_Pa_readNumber_21 (kk := fun v w hq => ?_)
    obtain ⟨rfl, rfl⟩ := hq
    refine gx_callS C (ct_Pa_isDigit (gx_l K) D dA _ (o := X[k]?) (fun c hc => hX.2.2.2 c (List.mem_of_getElem? hc))) me_Pa_isDigit ml_Pa_107 ms_Pa_isDigit dd_Pa_readNumber_24 (kk := fun v w hq => ?_)
    obtain ⟨rfl, rfl⟩ := hq
    refine gx_if_eq C 92 dd_Pa_readNumber_27 (fun h27 => ?_) (fun h27 => ?_)
    · have hd : pr_dg X[k]? = false := fb_0.mp h27
      exact fin 1 k 0 r1 (by decide) (by decide) hk (by decide) h42 ho1 hR
    · have hd : pr_dg X[k]? = true := ts_nf (fun e => h27 (fb_0.mpr e))
      obtain ⟨c, hx, hc1, hc2⟩ := pr_dg_some hd
      refine gx_iload_n C 0 dd_Pa_readNumber_30 (kk := ?_)
      refine gx_iconst (v := nI 1) C dd_Pa_readNumber_31 (kk := ?_)
      refine gx_icmp_ne C 47 dd_Pa_readNumber_32 (fun h32 => absurd rfl h32) (fun h32 => ?_)
      refine gx_aload_n C 1 dd_Pa_readNumber_35 (kk := ?_)
      refine gx_get C fd_Pa_45 (gm_r h42) dd_Pa_readNumber_36 (kk := ?_)
      refine gx_lconst (v := lN 0) C dd_Pa_readNumber_39 (kk := ?_)
      refine gx_lcmp C dd_Pa_readNumber_40 (kk := ?_)
      refine gx_if_ne C 47 dd_Pa_readNumber_41 (fun h41 => absurd (by decide) h41) (fun h41 => ?_)
      refine gx_bipush (v := -4) C dd_Pa_readNumber_44 (kk := ?_)
      refine gx_iret C dd_Pa_readNumber_46 ?_
      refine ⟨r1, rfl, ho1, ?_⟩
      rw [hR, pr_fin, if_pos hd]
      exact ⟨rfl, by decide, _, _, h42⟩
  have loop : ∀ m d k v r1, d + m = 10 → 1 ≤ d → k ≤ X.length → 0 < v → v < 10 ^ d → r1 42 = pa_c ad im (nI k) (lN v) → (∀ j, j ≠ 42 → r1 j = r j) → pr_num X lim k0 = pr_fin X lim (pr_more X m k v) → gx_G K D 4 0 0 7 [(3, .int (nI d)), (0, .ref (ad 42)), (1, .long most)] [] (gx_w ad (gm_h dA ad mm r1)) (gx_Z K D dA 0 0 (fun v w => ∃ r2, w = gx_w ad (gm_h dA ad mm r2) ∧ (∀ j, j ≠ 42 → r2 j = r j) ∧ pa_q v ad im r2 (pr_num X lim k0))) := by
    intro m
    induction m with
    | zero =>
      intro d k v r1 hdm hd1 hk hv0 hv h42 ho1 hR
      have hX1 : te_at dA ad r1 X := te_at_r hX ho1
      refine gx_iload_n C 0 dd_Pa_readNumber_7 (kk := ?_)
      refine gx_bipush (v := nI 10) C dd_Pa_readNumber_8 (kk := ?_)
      refine gx_icmp_ge C 92 dd_Pa_readNumber_10 (fun h10 => ?_) (fun h10 => absurd (nI_le (a := 10) (b := d) (by omega) (by omega)) h10)
      exact fin d k v r1 (by omega) (by omega) hk (by rw [show (10000000000 : Nat) = 10 ^ 10 by decide]; rw [show d = 10 by omega] at hv; exact hv) h42 ho1 hR
    | succ m ih =>
      intro d k v r1 hdm hd1 hk hv0 hv h42 ho1 hR
      have hX1 : te_at dA ad r1 X := te_at_r hX ho1
      have hpw : (10 : Nat) ^ d ≤ 10 ^ 9 := Nat.pow_le_pow_right (by decide) (by omega)
      have hp9 : (10 : Nat) ^ 9 = 1000000000 := by decide
      have hpd : (10 : Nat) ^ (d + 1) = 10 ^ d * 10 := Nat.pow_succ 10 d
      refine gx_iload_n C 0 dd_Pa_readNumber_7 (kk := ?_)
      refine gx_bipush (v := nI 10) C dd_Pa_readNumber_8 (kk := ?_)
      refine gx_icmp_ge C 92 dd_Pa_readNumber_10 (fun h10 => absurd h10 (nI_ge (by omega) (by omega))) (fun h10 => ?_)
      refine gx_aload_n C 1 dd_Pa_readNumber_13 (kk := ?_)
      refine gx_get C fd_Pa_9 (gm_r h42) dd_Pa_readNumber_14 (kk := ?_)
      refine gx_aload_n C 1 dd_Pa_readNumber_17 (kk := ?_)
      refine gx_get C fd_Pa_19 (gm_r h42) dd_Pa_readNumber_18 (kk := ?_)
      refine gx_callV C (ct_Te_codeAt (gx_l K) D dA ad mm r1 hX1 (k := k) (by omega)) me_Te_codeAt ml_Pa_55 mn_Te_codeAt _ (gx_w_at (by decide) (gm_r hX1.1)) rfl dd_Pa_readNumber_21 (kk := fun v w hq => ?_)
      obtain ⟨rfl, rfl⟩ := hq
      refine gx_callS C (ct_Pa_isDigit (gx_l K) D dA _ (o := X[k]?) (fun c hc => hX.2.2.2 c (List.mem_of_getElem? hc))) me_Pa_isDigit ml_Pa_107 ms_Pa_isDigit dd_Pa_readNumber_24 (kk := fun v w hq => ?_)
      obtain ⟨rfl, rfl⟩ := hq
      refine gx_if_eq C 92 dd_Pa_readNumber_27 (fun h27 => ?_) (fun h27 => ?_)
      · have hd : pr_dg X[k]? = false := fb_0.mp h27
        exact fin d k v r1 (by omega) (by omega) hk (by omega) h42 ho1 (by rw [hR, pr_more_n hd])
      · have hd : pr_dg X[k]? = true := ts_nf (fun e => h27 (fb_0.mpr e))
        obtain ⟨c, hx, hc1, hc2⟩ := pr_dg_some hd
        refine gx_iload_n C 0 dd_Pa_readNumber_30 (kk := ?_)
        refine gx_iconst (v := nI 1) C dd_Pa_readNumber_31 (kk := ?_)
        refine gx_icmp_ne C 47 dd_Pa_readNumber_32 (fun h32 => ?_) (fun h32 => ?_)
        · refine gx_aload_n C 1 dd_Pa_readNumber_47 (kk := ?_)
          refine gx_ldc2 C dd_Pa_readNumber_48 kc_Pa_113 (kk := ?_)
          refine gx_aload_n C 1 dd_Pa_readNumber_51 (kk := ?_)
          refine gx_get C fd_Pa_45 (gm_r h42) dd_Pa_readNumber_52 (kk := ?_)
          refine gx_lmul C dd_Pa_readNumber_55 (kk := ?_)
          refine gx_topl (lN (10 * v)) (by rw [show (10 : Int64) = lN 10 from rfl, lN_mul]) ?_
          refine gx_aload_n C 1 dd_Pa_readNumber_56 (kk := ?_)
          refine gx_get C fd_Pa_9 (gm_r h42) dd_Pa_readNumber_57 (kk := ?_)
          refine gx_aload_n C 1 dd_Pa_readNumber_60 (kk := ?_)
          refine gx_get C fd_Pa_19 (gm_r h42) dd_Pa_readNumber_61 (kk := ?_)
          refine gx_callV C (ct_Te_codeAt (gx_l K) D dA ad mm r1 hX1 (k := k) (by omega)) me_Te_codeAt ml_Pa_55 mn_Te_codeAt _ (gx_w_at (by decide) (gm_r hX1.1)) rfl dd_Pa_readNumber_64 (kk := fun v w hq => ?_)
          obtain ⟨rfl, rfl⟩ := hq
          refine gx_topi (nI c) (by rw [hx]; rfl) ?_
          refine gx_i2l C dd_Pa_readNumber_67 (w := lN c) (hv := nI_l (by omega)) (kk := ?_)
          refine gx_ladd C dd_Pa_readNumber_68 (kk := ?_)
          refine gx_topl _ (lN_add _ _) ?_
          refine gx_ldc2 C dd_Pa_readNumber_69 kc_Pa_115 (kk := ?_)
          refine gx_lsub C dd_Pa_readNumber_72 (kk := ?_)
          refine gx_topl (lN (10 * v + (c - 48))) (by rw [show (48 : Int64) = lN 48 from rfl, lN_sub (by omega), show 10 * v + c - 48 = 10 * v + (c - 48) by omega]) ?_
          refine gz_put C fw_Pa_45 h42 dd_Pa_readNumber_73 (kk := fun r2 hr2 => ?_)
          have h42b : r2 42 = pa_c ad im (nI k) (lN (10 * v + (c - 48))) := by rw [hr2, gm_us]; rfl
          refine gx_aload_n C 1 dd_Pa_readNumber_76 (kk := ?_)
          refine gx_dup C dd_Pa_readNumber_77 (kk := ?_)
          refine gx_get C fd_Pa_19 (gm_r h42b) dd_Pa_readNumber_78 (kk := ?_)
          refine gx_iconst (v := nI 1) C dd_Pa_readNumber_81 (kk := ?_)
          refine gx_iadd C dd_Pa_readNumber_82 (kk := ?_)
          refine gx_topi _ (nI_add _ _) ?_
          refine gz_put C fw_Pa_19 h42b dd_Pa_readNumber_83 (kk := fun r3 hr3 => ?_)
          have h42c : r3 42 = pa_c ad im (nI (k + 1)) (lN (10 * v + (c - 48))) := by rw [hr3, gm_us]; rfl
          refine gx_iinc C 0 (nI (d + 1)) _ dd_Pa_readNumber_86 (nI_1 d) (kk := ?_)
          refine gx_goto C 7 dd_Pa_readNumber_89 (kk := ?_)
          exact ih (d + 1) (k + 1) (10 * v + (c - 48)) r3 (by omega) (by omega) (pr_at hx) (by omega) (by omega) h42c (fun j hj => by rw [hr3, gm_un hj, hr2, gm_un hj]; exact ho1 j hj) (by rw [hR, pr_more_s hd, hx]; rfl)
        · refine gx_aload_n C 1 dd_Pa_readNumber_35 (kk := ?_)
          refine gx_get C fd_Pa_45 (gm_r h42) dd_Pa_readNumber_36 (kk := ?_)
          refine gx_lconst (v := lN 0) C dd_Pa_readNumber_39 (kk := ?_)
          refine gx_lcmp C dd_Pa_readNumber_40 (kk := ?_)
          refine gx_if_ne C 47 dd_Pa_readNumber_41 (fun h41 => ?_) (fun h41 => absurd ((pk_lEQ (a := v) (b := 0) (by omega) (by decide)).mp (lc_eq.mp h41)) (by omega))
          refine gx_aload_n C 1 dd_Pa_readNumber_47 (kk := ?_)
          refine gx_ldc2 C dd_Pa_readNumber_48 kc_Pa_113 (kk := ?_)
          refine gx_aload_n C 1 dd_Pa_readNumber_51 (kk := ?_)
          refine gx_get C fd_Pa_45 (gm_r h42) dd_Pa_readNumber_52 (kk := ?_)
          refine gx_lmul C dd_Pa_readNumber_55 (kk := ?_)
          refine gx_topl (lN (10 * v)) (by rw [show (10 : Int64) = lN 10 from rfl, lN_mul]) ?_
          refine gx_aload_n C 1 dd_Pa_readNumber_56 (kk := ?_)
          refine gx_get C fd_Pa_9 (gm_r h42) dd_Pa_readNumber_57 (kk := ?_)
          refine gx_aload_n C 1 dd_Pa_readNumber_60 (kk := ?_)
          refine gx_get C fd_Pa_19 (gm_r h42) dd_Pa_readNumber_61 (kk := ?_)
          refine gx_callV C (ct_Te_codeAt (gx_l K) D dA ad mm r1 hX1 (k := k) (by omega)) me_Te_codeAt ml_Pa_55 mn_Te_codeAt _ (gx_w_at (by decide) (gm_r hX1.1)) rfl dd_Pa_readNumber_64 (kk := fun v w hq => ?_)
          obtain ⟨rfl, rfl⟩ := hq
          refine gx_topi (nI c) (by rw [hx]; rfl) ?_
          refine gx_i2l C dd_Pa_readNumber_67 (w := lN c) (hv := nI_l (by omega)) (kk := ?_)
          refine gx_ladd C dd_Pa_readNumber_68 (kk := ?_)
          refine gx_topl _ (lN_add _ _) ?_
          refine gx_ldc2 C dd_Pa_readNumber_69 kc_Pa_115 (kk := ?_)
          refine gx_lsub C dd_Pa_readNumber_72 (kk := ?_)
          refine gx_topl (lN (10 * v + (c - 48))) (by rw [show (48 : Int64) = lN 48 from rfl, lN_sub (by omega), show 10 * v + c - 48 = 10 * v + (c - 48) by omega]) ?_
          refine gz_put C fw_Pa_45 h42 dd_Pa_readNumber_73 (kk := fun r2 hr2 => ?_)
          have h42b : r2 42 = pa_c ad im (nI k) (lN (10 * v + (c - 48))) := by rw [hr2, gm_us]; rfl
          refine gx_aload_n C 1 dd_Pa_readNumber_76 (kk := ?_)
          refine gx_dup C dd_Pa_readNumber_77 (kk := ?_)
          refine gx_get C fd_Pa_19 (gm_r h42b) dd_Pa_readNumber_78 (kk := ?_)
          refine gx_iconst (v := nI 1) C dd_Pa_readNumber_81 (kk := ?_)
          refine gx_iadd C dd_Pa_readNumber_82 (kk := ?_)
          refine gx_topi _ (nI_add _ _) ?_
          refine gz_put C fw_Pa_19 h42b dd_Pa_readNumber_83 (kk := fun r3 hr3 => ?_)
          have h42c : r3 42 = pa_c ad im (nI (k + 1)) (lN (10 * v + (c - 48))) := by rw [hr3, gm_us]; rfl
          refine gx_iinc C 0 (nI (d + 1)) _ dd_Pa_readNumber_86 (nI_1 d) (kk := ?_)
          refine gx_goto C 7 dd_Pa_readNumber_89 (kk := ?_)
          exact ih (d + 1) (k + 1) (10 * v + (c - 48)) r3 (by omega) (by omega) (pr_at hx) (by omega) (by omega) h42c (fun j hj => by rw [hr3, gm_un hj, hr2, gm_un hj]; exact ho1 j hj) (by rw [hR, pr_more_s hd, hx]; rfl)
  subst hk0
  refine gx_iconst (v := nI 0) C dd_Pa_readNumber_0 (kk := ?_)
  refine gx_istore_n C _ dd_Pa_readNumber_1 (kk := ?_)
  refine gx_aload_n C 1 dd_Pa_readNumber_2 (kk := ?_)
  refine gx_lconst (v := lN 0) C dd_Pa_readNumber_3 (kk := ?_)
  refine gz_put C fw_Pa_45 h42 dd_Pa_readNumber_4 (kk := fun r1 hr1 => ?_)
  replace h42 : r1 42 = pa_c ad im (nI k0) (lN 0) := by rw [hr1, gm_us]; rfl
  have ho1 : ∀ j, j ≠ 42 → r1 j = r j := fun j hj => by rw [hr1, gm_un hj]
  have hX1 : te_at dA ad r1 X := te_at_r hX ho1
  refine gx_iload_n C 0 dd_Pa_readNumber_7 (kk := ?_)
  refine gx_bipush (v := nI 10) C dd_Pa_readNumber_8 (kk := ?_)
  refine gx_icmp_ge C 92 dd_Pa_readNumber_10 (fun h10 => absurd h10 (by decide)) (fun h10 => ?_)
  refine gx_aload_n C 1 dd_Pa_readNumber_13 (kk := ?_)
  refine gx_get C fd_Pa_9 (gm_r h42) dd_Pa_readNumber_14 (kk := ?_)
  refine gx_aload_n C 1 dd_Pa_readNumber_17 (kk := ?_)
  refine gx_get C fd_Pa_19 (gm_r h42) dd_Pa_readNumber_18 (kk := ?_)
  refine gx_callV C (ct_Te_codeAt (gx_l K) D dA ad mm r1 hX1 (k := k0) (by omega)) me_Te_codeAt ml_Pa_55 mn_Te_codeAt _ (gx_w_at (by decide) (gm_r hX1.1)) rfl dd_Pa_readNumber_21 (kk := fun v w hq => ?_)
  obtain ⟨rfl, rfl⟩ := hq
  refine gx_callS C (ct_Pa_isDigit (gx_l K) D dA _ (o := X[k0]?) (fun c hc => hX.2.2.2 c (List.mem_of_getElem? hc))) me_Pa_isDigit ml_Pa_107 ms_Pa_isDigit dd_Pa_readNumber_24 (kk := fun v w hq => ?_)
  obtain ⟨rfl, rfl⟩ := hq
  refine gx_if_eq C 92 dd_Pa_readNumber_27 (fun h27 => ?_) (fun h27 => ?_)
  · have hd : pr_dg X[k0]? = false := fb_0.mp h27
    refine gx_iload_n C 0 dd_Pa_readNumber_92 (kk := ?_)
    refine gx_if_eq C 113 dd_Pa_readNumber_93 (fun h93 => ?_) (fun h93 => absurd rfl h93)
    refine gx_bipush (v := -4) C dd_Pa_readNumber_113 (kk := ?_)
    refine gx_iret C dd_Pa_readNumber_115 ?_
    refine ⟨r1, rfl, ho1, ?_⟩
    rw [pr_num, if_neg (by rw [hd]; decide)]
    exact ⟨rfl, by decide, _, _, h42⟩
  · have hd : pr_dg X[k0]? = true := ts_nf (fun e => h27 (fb_0.mpr e))
    obtain ⟨c, hx, hc1, hc2⟩ := pr_dg_some hd
    refine gx_iload_n C 0 dd_Pa_readNumber_30 (kk := ?_)
    refine gx_iconst (v := nI 1) C dd_Pa_readNumber_31 (kk := ?_)
    refine gx_icmp_ne C 47 dd_Pa_readNumber_32 (fun h32 => ?_) (fun h32 => absurd h32 (by decide))
    refine gx_aload_n C 1 dd_Pa_readNumber_47 (kk := ?_)
    refine gx_ldc2 C dd_Pa_readNumber_48 kc_Pa_113 (kk := ?_)
    refine gx_aload_n C 1 dd_Pa_readNumber_51 (kk := ?_)
    refine gx_get C fd_Pa_45 (gm_r h42) dd_Pa_readNumber_52 (kk := ?_)
    refine gx_lmul C dd_Pa_readNumber_55 (kk := ?_)
    refine gx_topl (lN (10 * 0)) (by rw [show (10 : Int64) = lN 10 from rfl, lN_mul]) ?_
    refine gx_aload_n C 1 dd_Pa_readNumber_56 (kk := ?_)
    refine gx_get C fd_Pa_9 (gm_r h42) dd_Pa_readNumber_57 (kk := ?_)
    refine gx_aload_n C 1 dd_Pa_readNumber_60 (kk := ?_)
    refine gx_get C fd_Pa_19 (gm_r h42) dd_Pa_readNumber_61 (kk := ?_)
    refine gx_callV C (ct_Te_codeAt (gx_l K) D dA ad mm r1 hX1 (k := k0) (by omega)) me_Te_codeAt ml_Pa_55 mn_Te_codeAt _ (gx_w_at (by decide) (gm_r hX1.1)) rfl dd_Pa_readNumber_64 (kk := fun v w hq => ?_)
    obtain ⟨rfl, rfl⟩ := hq
    refine gx_topi (nI c) (by rw [hx]; rfl) ?_
    refine gx_i2l C dd_Pa_readNumber_67 (w := lN c) (hv := nI_l (by omega)) (kk := ?_)
    refine gx_ladd C dd_Pa_readNumber_68 (kk := ?_)
    refine gx_topl _ (lN_add _ _) ?_
    refine gx_ldc2 C dd_Pa_readNumber_69 kc_Pa_115 (kk := ?_)
    refine gx_lsub C dd_Pa_readNumber_72 (kk := ?_)
    refine gx_topl (lN (10 * 0 + (c - 48))) (by rw [show (48 : Int64) = lN 48 from rfl, lN_sub (by omega), show 10 * 0 + c - 48 = 10 * 0 + (c - 48) by omega]) ?_
    refine gz_put C fw_Pa_45 h42 dd_Pa_readNumber_73 (kk := fun r2 hr2 => ?_)
    have h42b : r2 42 = pa_c ad im (nI k0) (lN (10 * 0 + (c - 48))) := by rw [hr2, gm_us]; rfl
    refine gx_aload_n C 1 dd_Pa_readNumber_76 (kk := ?_)
    refine gx_dup C dd_Pa_readNumber_77 (kk := ?_)
    refine gx_get C fd_Pa_19 (gm_r h42b) dd_Pa_readNumber_78 (kk := ?_)
    refine gx_iconst (v := nI 1) C dd_Pa_readNumber_81 (kk := ?_)
    refine gx_iadd C dd_Pa_readNumber_82 (kk := ?_)
    refine gx_topi _ (nI_add _ _) ?_
    refine gz_put C fw_Pa_19 h42b dd_Pa_readNumber_83 (kk := fun r3 hr3 => ?_)
    have h42c : r3 42 = pa_c ad im (nI (k0 + 1)) (lN (10 * 0 + (c - 48))) := by rw [hr3, gm_us]; rfl
    refine gx_iinc C 0 (nI 1) _ dd_Pa_readNumber_86 (nI_1 0) (kk := ?_)
    refine gx_goto C 7 dd_Pa_readNumber_89 (kk := ?_)
    by_cases h0 : c = 48
    · subst h0
      refine zero (k0 + 1) r3 (pr_at hx) h42c (fun j hj => by rw [hr3, gm_un hj, hr2, gm_un hj]; exact ho1 j hj) ?_
      rw [pr_num, if_pos hd, hx]
      rfl
    · refine loop 9 1 (k0 + 1) (10 * 0 + (c - 48)) r3 rfl (Nat.le_refl _) (pr_at hx) (by omega) (by omega) h42c (fun j hj => by rw [hr3, gm_un hj, hr2, gm_un hj]; exact ho1 j hj) ?_
      rw [pr_num, if_pos hd, hx, if_neg (show ¬ pr_v (some c) = 0 by show ¬ c - 48 = 0; omega)]
      rw [show pr_v (some c) = 10 * 0 + (c - 48) by show c - 48 = _; omega]
theorem pr_lim {n : Nat} (hn : n ≤ 16) : ∀ v, v < 10000000000 → ((nI n - nI 1).toInt64 < lN v ↔ n ≤ v) := by
  intro v hv
  rcases Nat.eq_zero_or_pos n with rfl | h
  · refine ⟨fun _ => Nat.zero_le _, fun _ => ?_⟩
    rw [show (nI 0 - nI 1).toInt64 = -1 by decide, Int64.lt_iff_toInt_lt, pk_lT (by omega), show (-1 : Int64).toInt = -1 by decide]
    omega
  · rw [pk_sub h, nI_l (by omega), pk_lLT (by omega) (by omega)]
    omega
set_option maxRecDepth 100000 in
set_option maxHeartbeats 4000000 in
theorem ct_Pa_readState (l : Launch) (D : va_G) (dA : Nat → ClassId) (ad : Nat → Nat) (mm : Nat → gm_V) (r : Nat → va_E) {X : List Nat} (hX : te_at dA ad r X) {im : Nat} {k : Nat} (hk : k ≤ X.length) {a : am_T} {y : Int64} (him : im < 5) (hM : gm_is (mm im) a) (hn : am_n a ≤ 16) (h42 : r 42 = pa_c ad im (nI k) y) : gx_Ct l D dA yy_Pa_readState cc_Pa_readState 1 (some .int) 2 0 0 [.ref (ad 42)] (gx_w ad (gm_h dA ad mm r)) (fun v w => ∃ r2, w = gx_w ad (gm_h dA ad mm r2) ∧ (∀ j, j ≠ 42 → r2 j = r j) ∧ pa_q v ad im r2 (pr_num X (am_n a) k)) := by
  refine gx_of (by decide) (Nat.le_of_ble_eq_true rfl) (fun K C _ _ => ?_)
  have hl16 := hX.2.2.1
  refine gx_aload_n C 0 dd_Pa_readState_0 (kk := ?_)
  refine gx_aload_n C 0 dd_Pa_readState_1 (kk := ?_)
  refine gx_get C fd_Pa_15 (gm_r h42) dd_Pa_readState_2 (kk := ?_)
  refine gm_get C fd_Pa_102 him dd_Pa_readState_5 (kk := ?_)
  refine gx_topi _ hM.1 ?_
  refine gx_iconst (v := nI 1) C dd_Pa_readState_8 (kk := ?_)
  refine gx_isub C dd_Pa_readState_9 (kk := ?_)
  refine gx_i2l C dd_Pa_readState_10 (w := (nI (am_n a) - nI 1).toInt64) (hv := rfl) (kk := ?_)
  refine gx_callV C (ct_Pa_readNumber (gx_l K) D dA ad mm r hX (im := im) hk (lim := am_n a) (most := (nI (am_n a) - nI 1).toInt64) (pr_lim hn) h42) me_Pa_readNumber ml_Pa_41 mn_Pa_readNumber _ (gx_w_at (by decide) (gm_r h42)) rfl dd_Pa_readState_11 (kk := fun v w hq => ?_)
  obtain ⟨r2, rfl, ho, hq⟩ := hq
  rcases hs : pr_num X (am_n a) k with f | x
  · rw [hs] at hq
    obtain ⟨rfl, hf, hz⟩ := hq
    refine gx_iret C dd_Pa_readState_14 ?_
    refine ⟨r2, rfl, ho, ?_⟩
    exact ⟨rfl, hf, hz⟩
  · rw [hs] at hq
    obtain ⟨rfl, hz⟩ := hq
    refine gx_iret C dd_Pa_readState_14 ?_
    refine ⟨r2, rfl, ho, ?_⟩
    exact ⟨rfl, hz⟩
theorem pr_lim9 : ∀ v, v < 10000000000 → ((1000000000 : Int64) < lN v ↔ 1000000001 ≤ v) := fun v hv => by
  rw [lN_e9 (by omega)]
  omega
set_option maxRecDepth 100000 in
set_option maxHeartbeats 4000000 in
theorem ct_Pa_readWeight (l : Launch) (D : va_G) (dA : Nat → ClassId) (ad : Nat → Nat) (mm : Nat → gm_V) (r : Nat → va_E) {X : List Nat} (hX : te_at dA ad r X) {im : Nat} {k : Nat} (hk : k ≤ X.length) {y : Int64} (h42 : r 42 = pa_c ad im (nI k) y) : gx_Ct l D dA yy_Pa_readWeight cc_Pa_readWeight 2 (some .int) 2 0 0 [.ref (ad 42)] (gx_w ad (gm_h dA ad mm r)) (fun v w => ∃ r2, w = gx_w ad (gm_h dA ad mm r2) ∧ (∀ j, j ≠ 42 → r2 j = r j) ∧ pa_q v ad im r2 (pr_wt X k)) := by
  refine gx_of (by decide) (Nat.le_of_ble_eq_true rfl) (fun K C _ _ => ?_)
  have hl16 := hX.2.2.1
  have hX_0 := hX
  have h42_0 := h42
  refine gx_aload_n C 0 dd_Pa_readWeight_0 (kk := ?_)
  refine gx_bipush (v := nI 47) C dd_Pa_readWeight_1 (kk := ?_)
  refine gx_callV C (ct_Pa_readSign (gx_l K) D dA ad mm r hX_0 (im := im) (k := k) (by omega) (c := 47) (y := y) (by decide) h42_0) me_Pa_readSign ml_Pa_35 mn_Pa_readSign _ (gx_w_at (by decide) (gm_r h42_0)) rfl dd_Pa_readWeight_3 (kk := fun v w hq => ?_)
  obtain ⟨r1, rfl, ho1, hq⟩ := hq
  have hX_1 : te_at dA ad r1 X := te_at_r hX_0 ho1
  rcases hs1 : pr_sgn X 47 k with f1 | k1
  · rw [hs1] at hq
    obtain ⟨rfl, hf1, x1, y1, hz1⟩ := hq
    refine gx_istore_n C _ dd_Pa_readWeight_6 (kk := ?_)
    refine gx_iload_n C 0 dd_Pa_readWeight_7 (kk := ?_)
    refine gx_if_eq C 15 dd_Pa_readWeight_8 (fun h8 => absurd h8 hf1) (fun h8 => ?_)
    refine gx_iload_n C 0 dd_Pa_readWeight_11 (kk := ?_)
    refine gx_goto C 22 dd_Pa_readWeight_12 (kk := ?_)
    refine gx_istore_n C _ dd_Pa_readWeight_22 (kk := ?_)
    refine gx_iload_n C 0 dd_Pa_readWeight_23 (kk := ?_)
    refine gx_if_eq C 31 dd_Pa_readWeight_24 (fun h24 => absurd h24 hf1) (fun h24 => ?_)
    refine gx_iload_n C 0 dd_Pa_readWeight_27 (kk := ?_)
    refine gx_goto C 37 dd_Pa_readWeight_28 (kk := ?_)
    refine gx_iret C dd_Pa_readWeight_37 ?_
    refine ⟨r1, rfl, fun j hj => (ho1 j hj), ?_⟩
    rw [pr_wt, pr_bdl hs1]
    exact ⟨rfl, hf1, _, _, hz1⟩
  · rw [hs1] at hq
    obtain ⟨rfl, h42_1⟩ := hq
    have hb1 := pr_sgn_r hs1
    refine gx_istore_n C _ dd_Pa_readWeight_6 (kk := ?_)
    refine gx_iload_n C 0 dd_Pa_readWeight_7 (kk := ?_)
    refine gx_if_eq C 15 dd_Pa_readWeight_8 (fun h8 => ?_) (fun h8 => absurd rfl h8)
    refine gx_aload_n C 1 dd_Pa_readWeight_15 (kk := ?_)
    refine gx_ldc2 C dd_Pa_readWeight_16 kc_Pa_105 (kk := ?_)
    refine gx_callV C (ct_Pa_readNumber (gx_l K) D dA ad mm r1 hX_1 (im := im) (k := k1) (by omega) (lim := 1000000001) (most := 1000000000) pr_lim9 h42_1) me_Pa_readNumber ml_Pa_41 mn_Pa_readNumber _ (gx_w_at (by decide) (gm_r h42_1)) rfl dd_Pa_readWeight_19 (kk := fun v w hq => ?_)
    obtain ⟨r2, rfl, ho2, hq⟩ := hq
    have hX_2 : te_at dA ad r2 X := te_at_r hX_1 ho2
    rcases hs2 : pr_num X 1000000001 k1 with f2 | ⟨k2, v2⟩
    · rw [hs2] at hq
      obtain ⟨rfl, hf2, x2, y2, hz2⟩ := hq
      refine gx_istore_n C _ dd_Pa_readWeight_22 (kk := ?_)
      refine gx_iload_n C 0 dd_Pa_readWeight_23 (kk := ?_)
      refine gx_if_eq C 31 dd_Pa_readWeight_24 (fun h24 => absurd h24 hf2) (fun h24 => ?_)
      refine gx_iload_n C 0 dd_Pa_readWeight_27 (kk := ?_)
      refine gx_goto C 37 dd_Pa_readWeight_28 (kk := ?_)
      refine gx_iret C dd_Pa_readWeight_37 ?_
      refine ⟨r2, rfl, fun j hj => ((ho2 j hj).trans (ho1 j hj)), ?_⟩
      rw [pr_wt, pr_bdr hs1, pr_bdl hs2]
      exact ⟨rfl, hf2, _, _, hz2⟩
    · rw [hs2] at hq
      obtain ⟨rfl, h42_2⟩ := hq
      have h42_2 : r2 42 = pa_c ad im (nI k2) (lN v2) := h42_2
      have hb2 := pr_num_r hs2
      refine gx_istore_n C _ dd_Pa_readWeight_22 (kk := ?_)
      refine gx_iload_n C 0 dd_Pa_readWeight_23 (kk := ?_)
      refine gx_if_eq C 31 dd_Pa_readWeight_24 (fun h24 => ?_) (fun h24 => absurd rfl h24)
      refine gx_aload_n C 1 dd_Pa_readWeight_31 (kk := ?_)
      refine gx_bipush (v := nI 59) C dd_Pa_readWeight_32 (kk := ?_)
      refine gx_callV C (ct_Pa_readSign (gx_l K) D dA ad mm r2 hX_2 (im := im) (k := k2) (by omega) (c := 59) (y := lN v2) (by decide) h42_2) me_Pa_readSign ml_Pa_35 mn_Pa_readSign _ (gx_w_at (by decide) (gm_r h42_2)) rfl dd_Pa_readWeight_34 (kk := fun v w hq => ?_)
      obtain ⟨r3, rfl, ho3, hq⟩ := hq
      have hX_3 : te_at dA ad r3 X := te_at_r hX_2 ho3
      rcases hs3 : pr_sgn X 59 k2 with f3 | k3
      · rw [hs3] at hq
        obtain ⟨rfl, hf3, x3, y3, hz3⟩ := hq
        refine gx_iret C dd_Pa_readWeight_37 ?_
        refine ⟨r3, rfl, fun j hj => ((ho3 j hj).trans ((ho2 j hj).trans (ho1 j hj))), ?_⟩
        rw [pr_wt, pr_bdr hs1, pr_bdr hs2, pr_bdl hs3]
        exact ⟨rfl, hf3, _, _, hz3⟩
      · rw [hs3] at hq
        obtain ⟨rfl, h42_3⟩ := hq
        have hb3 := pr_sgn_r hs3
        refine gx_iret C dd_Pa_readWeight_37 ?_
        refine ⟨r3, rfl, fun j hj => ((ho3 j hj).trans ((ho2 j hj).trans (ho1 j hj))), ?_⟩
        rw [pr_wt, pr_bdr hs1, pr_bdr hs2, pr_bdr hs3]
        exact ⟨rfl, h42_3⟩
