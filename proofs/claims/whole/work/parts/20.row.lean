theorem dd_Ro_take_0 : decode cc_Ro_take 0 = .ok (.iload_n 1, 1) := by decide +kernel
theorem dd_Ro_take_1 : decode cc_Ro_take 1 = .ok (.istore_n 2, 1) := by decide +kernel
theorem dd_Ro_take_2 : decode cc_Ro_take 2 = .ok (.aload_n 0, 1) := by decide +kernel
theorem dd_Ro_take_3 : decode cc_Ro_take 3 = .ok (.iconst 0, 1) := by decide +kernel
theorem dd_Ro_take_4 : decode cc_Ro_take 4 = .ok (.putfield 15, 3) := by decide +kernel
theorem dd_Ro_take_7 : decode cc_Ro_take 7 = .ok (.iconst 0, 1) := by decide +kernel
theorem dd_Ro_take_8 : decode cc_Ro_take 8 = .ok (.istore_n 3, 1) := by decide +kernel
theorem dd_Ro_take_9 : decode cc_Ro_take 9 = .ok (.iload_n 3, 1) := by decide +kernel
theorem dd_Ro_take_10 : decode cc_Ro_take 10 = .ok (.bipush 8, 2) := by decide +kernel
theorem dd_Ro_take_12 : decode cc_Ro_take 12 = .ok (.if_icmp .ge 56, 3) := by decide +kernel
theorem dd_Ro_take_15 : decode cc_Ro_take 15 = .ok (.iload_n 2, 1) := by decide +kernel
theorem dd_Ro_take_16 : decode cc_Ro_take 16 = .ok (.ifCond .le 52, 3) := by decide +kernel
theorem dd_Ro_take_19 : decode cc_Ro_take 19 = .ok (.iload_n 2, 1) := by decide +kernel
theorem dd_Ro_take_20 : decode cc_Ro_take 20 = .ok (.bipush 10, 2) := by decide +kernel
theorem dd_Ro_take_22 : decode cc_Ro_take 22 = .ok (.irem, 1) := by decide +kernel
theorem dd_Ro_take_23 : decode cc_Ro_take 23 = .ok (.istore 4, 2) := by decide +kernel
theorem dd_Ro_take_25 : decode cc_Ro_take 25 = .ok (.iload 4, 2) := by decide +kernel
theorem dd_Ro_take_27 : decode cc_Ro_take 27 = .ok (.ifCond .eq 10, 3) := by decide +kernel
theorem dd_Ro_take_30 : decode cc_Ro_take 30 = .ok (.iload 4, 2) := by decide +kernel
theorem dd_Ro_take_32 : decode cc_Ro_take 32 = .ok (.bipush 7, 2) := by decide +kernel
theorem dd_Ro_take_34 : decode cc_Ro_take 34 = .ok (.if_icmp .le 5, 3) := by decide +kernel
theorem dd_Ro_take_37 : decode cc_Ro_take 37 = .ok (.iconst 0, 1) := by decide +kernel
theorem dd_Ro_take_38 : decode cc_Ro_take 38 = .ok (.ireturn, 1) := by decide +kernel
theorem dd_Ro_take_39 : decode cc_Ro_take 39 = .ok (.aload_n 0, 1) := by decide +kernel
theorem dd_Ro_take_40 : decode cc_Ro_take 40 = .ok (.getfield 9, 3) := by decide +kernel
theorem dd_Ro_take_43 : decode cc_Ro_take 43 = .ok (.iload_n 3, 1) := by decide +kernel
theorem dd_Ro_take_44 : decode cc_Ro_take 44 = .ok (.iload 4, 2) := by decide +kernel
theorem dd_Ro_take_46 : decode cc_Ro_take 46 = .ok (.iastore, 1) := by decide +kernel
theorem dd_Ro_take_47 : decode cc_Ro_take 47 = .ok (.aload_n 0, 1) := by decide +kernel
theorem dd_Ro_take_48 : decode cc_Ro_take 48 = .ok (.dup, 1) := by decide +kernel
theorem dd_Ro_take_49 : decode cc_Ro_take 49 = .ok (.getfield 15, 3) := by decide +kernel
theorem dd_Ro_take_52 : decode cc_Ro_take 52 = .ok (.iconst 1, 1) := by decide +kernel
theorem dd_Ro_take_53 : decode cc_Ro_take 53 = .ok (.iadd, 1) := by decide +kernel
theorem dd_Ro_take_54 : decode cc_Ro_take 54 = .ok (.putfield 15, 3) := by decide +kernel
theorem dd_Ro_take_57 : decode cc_Ro_take 57 = .ok (.iload_n 2, 1) := by decide +kernel
theorem dd_Ro_take_58 : decode cc_Ro_take 58 = .ok (.bipush 10, 2) := by decide +kernel
theorem dd_Ro_take_60 : decode cc_Ro_take 60 = .ok (.idiv, 1) := by decide +kernel
theorem dd_Ro_take_61 : decode cc_Ro_take 61 = .ok (.istore_n 2, 1) := by decide +kernel
theorem dd_Ro_take_62 : decode cc_Ro_take 62 = .ok (.iinc 3 1, 3) := by decide +kernel
theorem dd_Ro_take_65 : decode cc_Ro_take 65 = .ok (.goto (-56), 3) := by decide +kernel
theorem dd_Ro_take_68 : decode cc_Ro_take 68 = .ok (.iload_n 2, 1) := by decide +kernel
theorem dd_Ro_take_69 : decode cc_Ro_take 69 = .ok (.ifCond .ne 7, 3) := by decide +kernel
theorem dd_Ro_take_72 : decode cc_Ro_take 72 = .ok (.iconst 1, 1) := by decide +kernel
theorem dd_Ro_take_73 : decode cc_Ro_take 73 = .ok (.goto 4, 3) := by decide +kernel
theorem dd_Ro_take_76 : decode cc_Ro_take 76 = .ok (.iconst 0, 1) := by decide +kernel
theorem dd_Ro_take_77 : decode cc_Ro_take 77 = .ok (.ireturn, 1) := by decide +kernel
theorem dd_Ro_doneAfter_0 : decode cc_Ro_doneAfter 0 = .ok (.iload_n 2, 1) := by decide +kernel
theorem dd_Ro_doneAfter_1 : decode cc_Ro_doneAfter 1 = .ok (.ifCond .ne 5, 3) := by decide +kernel
theorem dd_Ro_doneAfter_4 : decode cc_Ro_doneAfter 4 = .ok (.iload_n 1, 1) := by decide +kernel
theorem dd_Ro_doneAfter_5 : decode cc_Ro_doneAfter 5 = .ok (.ireturn, 1) := by decide +kernel
theorem dd_Ro_doneAfter_6 : decode cc_Ro_doneAfter 6 = .ok (.iload_n 1, 1) := by decide +kernel
theorem dd_Ro_doneAfter_7 : decode cc_Ro_doneAfter 7 = .ok (.aload_n 0, 1) := by decide +kernel
theorem dd_Ro_doneAfter_8 : decode cc_Ro_doneAfter 8 = .ok (.getfield 15, 3) := by decide +kernel
theorem dd_Ro_doneAfter_11 : decode cc_Ro_doneAfter 11 = .ok (.if_icmp .ge 24, 3) := by decide +kernel
theorem dd_Ro_doneAfter_14 : decode cc_Ro_doneAfter 14 = .ok (.aload_n 0, 1) := by decide +kernel
theorem dd_Ro_doneAfter_15 : decode cc_Ro_doneAfter 15 = .ok (.getfield 9, 3) := by decide +kernel
theorem dd_Ro_doneAfter_18 : decode cc_Ro_doneAfter 18 = .ok (.aload_n 0, 1) := by decide +kernel
theorem dd_Ro_doneAfter_19 : decode cc_Ro_doneAfter 19 = .ok (.getfield 15, 3) := by decide +kernel
theorem dd_Ro_doneAfter_22 : decode cc_Ro_doneAfter 22 = .ok (.iconst 1, 1) := by decide +kernel
theorem dd_Ro_doneAfter_23 : decode cc_Ro_doneAfter 23 = .ok (.isub, 1) := by decide +kernel
theorem dd_Ro_doneAfter_24 : decode cc_Ro_doneAfter 24 = .ok (.iload_n 1, 1) := by decide +kernel
theorem dd_Ro_doneAfter_25 : decode cc_Ro_doneAfter 25 = .ok (.isub, 1) := by decide +kernel
theorem dd_Ro_doneAfter_26 : decode cc_Ro_doneAfter 26 = .ok (.iaload, 1) := by decide +kernel
theorem dd_Ro_doneAfter_27 : decode cc_Ro_doneAfter 27 = .ok (.iload_n 2, 1) := by decide +kernel
theorem dd_Ro_doneAfter_28 : decode cc_Ro_doneAfter 28 = .ok (.if_icmp .ne 7, 3) := by decide +kernel
theorem dd_Ro_doneAfter_31 : decode cc_Ro_doneAfter 31 = .ok (.iconst 1, 1) := by decide +kernel
theorem dd_Ro_doneAfter_32 : decode cc_Ro_doneAfter 32 = .ok (.goto 4, 3) := by decide +kernel
theorem dd_Ro_doneAfter_35 : decode cc_Ro_doneAfter 35 = .ok (.iconst 0, 1) := by decide +kernel
theorem dd_Ro_doneAfter_36 : decode cc_Ro_doneAfter 36 = .ok (.istore_n 3, 1) := by decide +kernel
theorem dd_Ro_doneAfter_37 : decode cc_Ro_doneAfter 37 = .ok (.iload_n 3, 1) := by decide +kernel
theorem dd_Ro_doneAfter_38 : decode cc_Ro_doneAfter 38 = .ok (.ifCond .eq 9, 3) := by decide +kernel
theorem dd_Ro_doneAfter_41 : decode cc_Ro_doneAfter 41 = .ok (.iload_n 1, 1) := by decide +kernel
theorem dd_Ro_doneAfter_42 : decode cc_Ro_doneAfter 42 = .ok (.iconst 1, 1) := by decide +kernel
theorem dd_Ro_doneAfter_43 : decode cc_Ro_doneAfter 43 = .ok (.iadd, 1) := by decide +kernel
theorem dd_Ro_doneAfter_44 : decode cc_Ro_doneAfter 44 = .ok (.goto 4, 3) := by decide +kernel
theorem dd_Ro_doneAfter_47 : decode cc_Ro_doneAfter 47 = .ok (.iconst (-1), 1) := by decide +kernel
theorem dd_Ro_doneAfter_48 : decode cc_Ro_doneAfter 48 = .ok (.ireturn, 1) := by decide +kernel
theorem dd_We_baseOf_0 : decode cc_We_baseOf 0 = .ok (.iload_n 0, 1) := by decide +kernel
theorem dd_We_baseOf_1 : decode cc_We_baseOf 1 = .ok (.bipush 9, 2) := by decide +kernel
theorem dd_We_baseOf_3 : decode cc_We_baseOf 3 = .ok (.imul, 1) := by decide +kernel
theorem dd_We_baseOf_4 : decode cc_We_baseOf 4 = .ok (.iload_n 1, 1) := by decide +kernel
theorem dd_We_baseOf_5 : decode cc_We_baseOf 5 = .ok (.iadd, 1) := by decide +kernel
theorem dd_We_baseOf_6 : decode cc_We_baseOf 6 = .ok (.bipush 16, 2) := by decide +kernel
theorem dd_We_baseOf_8 : decode cc_We_baseOf 8 = .ok (.imul, 1) := by decide +kernel
theorem dd_We_baseOf_9 : decode cc_We_baseOf 9 = .ok (.ireturn, 1) := by decide +kernel
theorem dd_We_leave_0 : decode cc_We_leave 0 = .ok (.iconst 0, 1) := by decide +kernel
theorem dd_We_leave_1 : decode cc_We_leave 1 = .ok (.istore 4, 2) := by decide +kernel
theorem dd_We_leave_3 : decode cc_We_leave 3 = .ok (.iload 4, 2) := by decide +kernel
theorem dd_We_leave_5 : decode cc_We_leave 5 = .ok (.aload_n 1, 1) := by decide +kernel
theorem dd_We_leave_6 : decode cc_We_leave 6 = .ok (.getfield 68, 3) := by decide +kernel
theorem dd_We_leave_9 : decode cc_We_leave 9 = .ok (.if_icmp .ge 128, 3) := by decide +kernel
theorem dd_We_leave_12 : decode cc_We_leave 12 = .ok (.aload_n 1, 1) := by decide +kernel
theorem dd_We_leave_13 : decode cc_We_leave 13 = .ok (.getfield 71, 3) := by decide +kernel
theorem dd_We_leave_16 : decode cc_We_leave 16 = .ok (.iload 4, 2) := by decide +kernel
theorem dd_We_leave_18 : decode cc_We_leave 18 = .ok (.iaload, 1) := by decide +kernel
theorem dd_We_leave_19 : decode cc_We_leave 19 = .ok (.istore 5, 2) := by decide +kernel
theorem dd_We_leave_21 : decode cc_We_leave 21 = .ok (.aload_n 0, 1) := by decide +kernel
theorem dd_We_leave_22 : decode cc_We_leave 22 = .ok (.getfield 12, 3) := by decide +kernel
theorem dd_We_leave_25 : decode cc_We_leave 25 = .ok (.iload_n 2, 1) := by decide +kernel
theorem dd_We_leave_26 : decode cc_We_leave 26 = .ok (.iload 5, 2) := by decide +kernel
theorem dd_We_leave_28 : decode cc_We_leave 28 = .ok (.invokestatic 75, 3) := by decide +kernel
theorem dd_We_leave_31 : decode cc_We_leave 31 = .ok (.invokevirtual 79, 3) := by decide +kernel
theorem dd_We_leave_34 : decode cc_We_leave 34 = .ok (.istore 6, 2) := by decide +kernel
theorem dd_We_leave_36 : decode cc_We_leave 36 = .ok (.aload_n 0, 1) := by decide +kernel
theorem dd_We_leave_37 : decode cc_We_leave 37 = .ok (.getfield 18, 3) := by decide +kernel
theorem dd_We_leave_40 : decode cc_We_leave 40 = .ok (.iload_n 3, 1) := by decide +kernel
theorem dd_We_leave_41 : decode cc_We_leave 41 = .ok (.iload 5, 2) := by decide +kernel
theorem dd_We_leave_43 : decode cc_We_leave 43 = .ok (.invokestatic 82, 3) := by decide +kernel
theorem dd_We_leave_46 : decode cc_We_leave 46 = .ok (.invokevirtual 79, 3) := by decide +kernel
theorem dd_We_leave_49 : decode cc_We_leave 49 = .ok (.istore 7, 2) := by decide +kernel
theorem dd_We_leave_51 : decode cc_We_leave 51 = .ok (.iload 5, 2) := by decide +kernel
theorem dd_We_leave_53 : decode cc_We_leave 53 = .ok (.invokestatic 85, 3) := by decide +kernel
theorem dd_We_leave_56 : decode cc_We_leave 56 = .ok (.ifCond .eq 75, 3) := by decide +kernel
theorem dd_We_leave_59 : decode cc_We_leave 59 = .ok (.iload 6, 2) := by decide +kernel
theorem dd_We_leave_61 : decode cc_We_leave 61 = .ok (.iconst (-1), 1) := by decide +kernel
theorem dd_We_leave_62 : decode cc_We_leave 62 = .ok (.if_icmp .eq 69, 3) := by decide +kernel
theorem dd_We_leave_65 : decode cc_We_leave 65 = .ok (.iload 7, 2) := by decide +kernel
theorem dd_We_leave_67 : decode cc_We_leave 67 = .ok (.iconst (-1), 1) := by decide +kernel
theorem dd_We_leave_68 : decode cc_We_leave 68 = .ok (.if_icmp .eq 63, 3) := by decide +kernel
theorem dd_We_leave_71 : decode cc_We_leave 71 = .ok (.iload 6, 2) := by decide +kernel
theorem dd_We_leave_73 : decode cc_We_leave 73 = .ok (.iload 7, 2) := by decide +kernel
theorem dd_We_leave_75 : decode cc_We_leave 75 = .ok (.invokestatic 52, 3) := by decide +kernel
theorem dd_We_leave_78 : decode cc_We_leave 78 = .ok (.iload 5, 2) := by decide +kernel
theorem dd_We_leave_80 : decode cc_We_leave 80 = .ok (.invokestatic 88, 3) := by decide +kernel
theorem dd_We_leave_83 : decode cc_We_leave 83 = .ok (.iadd, 1) := by decide +kernel
theorem dd_We_leave_84 : decode cc_We_leave 84 = .ok (.istore 8, 2) := by decide +kernel
theorem dd_We_leave_86 : decode cc_We_leave 86 = .ok (.aload_n 0, 1) := by decide +kernel
theorem dd_We_leave_87 : decode cc_We_leave 87 = .ok (.getfield 21, 3) := by decide +kernel
theorem dd_We_leave_90 : decode cc_We_leave 90 = .ok (.iload_n 2, 1) := by decide +kernel
theorem dd_We_leave_91 : decode cc_We_leave 91 = .ok (.iload_n 3, 1) := by decide +kernel
theorem dd_We_leave_92 : decode cc_We_leave 92 = .ok (.invokestatic 52, 3) := by decide +kernel
theorem dd_We_leave_95 : decode cc_We_leave 95 = .ok (.iload 5, 2) := by decide +kernel
theorem dd_We_leave_97 : decode cc_We_leave 97 = .ok (.invokestatic 91, 3) := by decide +kernel
theorem dd_We_leave_100 : decode cc_We_leave 100 = .ok (.iadd, 1) := by decide +kernel
theorem dd_We_leave_101 : decode cc_We_leave 101 = .ok (.laload, 1) := by decide +kernel
theorem dd_We_leave_102 : decode cc_We_leave 102 = .ok (.aload_n 1, 1) := by decide +kernel
theorem dd_We_leave_103 : decode cc_We_leave 103 = .ok (.getfield 94, 3) := by decide +kernel
theorem dd_We_leave_106 : decode cc_We_leave 106 = .ok (.iload 4, 2) := by decide +kernel
theorem dd_We_leave_108 : decode cc_We_leave 108 = .ok (.laload, 1) := by decide +kernel
theorem dd_We_leave_109 : decode cc_We_leave 109 = .ok (.ladd, 1) := by decide +kernel
theorem dd_We_leave_110 : decode cc_We_leave 110 = .ok (.lstore 9, 2) := by decide +kernel
theorem dd_We_leave_112 : decode cc_We_leave 112 = .ok (.aload_n 0, 1) := by decide +kernel
theorem dd_We_leave_113 : decode cc_We_leave 113 = .ok (.getfield 21, 3) := by decide +kernel
theorem dd_We_leave_116 : decode cc_We_leave 116 = .ok (.iload 8, 2) := by decide +kernel
theorem dd_We_leave_118 : decode cc_We_leave 118 = .ok (.aload_n 0, 1) := by decide +kernel
theorem dd_We_leave_119 : decode cc_We_leave 119 = .ok (.getfield 21, 3) := by decide +kernel
theorem dd_We_leave_122 : decode cc_We_leave 122 = .ok (.iload 8, 2) := by decide +kernel
theorem dd_We_leave_124 : decode cc_We_leave 124 = .ok (.laload, 1) := by decide +kernel
theorem dd_We_leave_125 : decode cc_We_leave 125 = .ok (.lload 9, 2) := by decide +kernel
theorem dd_We_leave_127 : decode cc_We_leave 127 = .ok (.invokestatic 97, 3) := by decide +kernel
theorem dd_We_leave_130 : decode cc_We_leave 130 = .ok (.lastore, 1) := by decide +kernel
theorem dd_We_leave_131 : decode cc_We_leave 131 = .ok (.iinc 4 1, 3) := by decide +kernel
theorem dd_We_leave_134 : decode cc_We_leave 134 = .ok (.goto (-131), 3) := by decide +kernel
theorem dd_We_leave_137 : decode cc_We_leave 137 = .ok (.return_, 1) := by decide +kernel
theorem dd_We_leastEnd_0 : decode cc_We_leastEnd 0 = .ok (.ldc2_w 37, 3) := by decide +kernel
theorem dd_We_leastEnd_3 : decode cc_We_leastEnd 3 = .ok (.lstore_n 3, 1) := by decide +kernel
theorem dd_We_leastEnd_4 : decode cc_We_leastEnd 4 = .ok (.iconst 0, 1) := by decide +kernel
theorem dd_We_leastEnd_5 : decode cc_We_leastEnd 5 = .ok (.istore 5, 2) := by decide +kernel
theorem dd_We_leastEnd_7 : decode cc_We_leastEnd 7 = .ok (.iload 5, 2) := by decide +kernel
theorem dd_We_leastEnd_9 : decode cc_We_leastEnd 9 = .ok (.aload_n 1, 1) := by decide +kernel
theorem dd_We_leastEnd_10 : decode cc_We_leastEnd 10 = .ok (.getfield 103, 3) := by decide +kernel
theorem dd_We_leastEnd_13 : decode cc_We_leastEnd 13 = .ok (.if_icmp .ge 30, 3) := by decide +kernel
theorem dd_We_leastEnd_16 : decode cc_We_leastEnd 16 = .ok (.lload_n 3, 1) := by decide +kernel
theorem dd_We_leastEnd_17 : decode cc_We_leastEnd 17 = .ok (.aload_n 0, 1) := by decide +kernel
theorem dd_We_leastEnd_18 : decode cc_We_leastEnd 18 = .ok (.getfield 21, 3) := by decide +kernel
theorem dd_We_leastEnd_21 : decode cc_We_leastEnd 21 = .ok (.iload_n 2, 1) := by decide +kernel
theorem dd_We_leastEnd_22 : decode cc_We_leastEnd 22 = .ok (.iload 5, 2) := by decide +kernel
theorem dd_We_leastEnd_24 : decode cc_We_leastEnd 24 = .ok (.iadd, 1) := by decide +kernel
theorem dd_We_leastEnd_25 : decode cc_We_leastEnd 25 = .ok (.laload, 1) := by decide +kernel
theorem dd_We_leastEnd_26 : decode cc_We_leastEnd 26 = .ok (.aload_n 1, 1) := by decide +kernel
theorem dd_We_leastEnd_27 : decode cc_We_leastEnd 27 = .ok (.iload 5, 2) := by decide +kernel
theorem dd_We_leastEnd_29 : decode cc_We_leastEnd 29 = .ok (.invokevirtual 106, 3) := by decide +kernel
theorem dd_We_leastEnd_32 : decode cc_We_leastEnd 32 = .ok (.ladd, 1) := by decide +kernel
theorem dd_We_leastEnd_33 : decode cc_We_leastEnd 33 = .ok (.invokestatic 97, 3) := by decide +kernel
theorem dd_We_leastEnd_36 : decode cc_We_leastEnd 36 = .ok (.lstore_n 3, 1) := by decide +kernel
theorem dd_We_leastEnd_37 : decode cc_We_leastEnd 37 = .ok (.iinc 5 1, 3) := by decide +kernel
theorem dd_We_leastEnd_40 : decode cc_We_leastEnd 40 = .ok (.goto (-33), 3) := by decide +kernel
theorem dd_We_leastEnd_43 : decode cc_We_leastEnd 43 = .ok (.lload_n 3, 1) := by decide +kernel
theorem dd_We_leastEnd_44 : decode cc_We_leastEnd 44 = .ok (.lreturn, 1) := by decide +kernel
/-! ROWS of labels -/
def ro_dg : Nat → Nat → Option (List Nat)
  | 0, x => if x = 0 then some [] else none
  | m + 1, x => if x = 0 then some [] else if x % 10 = 0 ∨ 7 < x % 10 then none else (ro_dg m (x / 10)).map (fun L => x % 10 :: L)
def ro_of (n : Int32) : Option (List Nat) := if n < 0 then none else ro_dg 8 n.toNatClampNeg
def ro_at (dA : Nat → ClassId) (ad : Nat → Nat) (r : Nat → va_E) (qo qa : Nat) (L : List Nat) : Prop := r qo = .inr (7, [.int (nI L.length), .ref (ad qa)]) ∧ (∃ f, r qa = .inl (dA 0, 8, .inl f) ∧ ∀ j d, L[j]? = some d → f j = nI d) ∧ L.length ≤ 8 ∧ ∀ d ∈ L, d < 8
def ro_q (dA : Nat → ClassId) (ad : Nat → Nat) (v : Option Value) (r : Nat → va_E) (qo qa : Nat) (o : Option (List Nat)) : Prop := match o with
  | none => v = some (.int (nI 0)) ∧ ∃ L, ro_at dA ad r qo qa L
  | some L => v = some (.int (nI 1)) ∧ ro_at dA ad r qo qa L
def ro_dn (A : List Nat) (i b : Nat) : Option Nat := if b = 0 then some i else if A[i]? = some b then some (i + 1) else none
theorem ro_dn_le {A : List Nat} {i b k : Nat} (hi : i ≤ A.length) (h : ro_dn A i b = some k) : i ≤ k ∧ k ≤ A.length := by
  unfold ro_dn at h
  split at h
  · cases h; omega
  · split at h
    · rename_i h2
      cases h
      have := (List.getElem?_eq_some_iff.mp h2).1
      omega
    · cases h
set_option maxRecDepth 100000 in
set_option maxHeartbeats 4000000 in
theorem ct_Ro_take (l : Launch) (D : va_G) (dA : Nat → ClassId) (ad : Nat → Nat) (mm : Nat → gm_V) (r : Nat → va_E) {qo qa : Nat} {num len0 : Int32} {f0 : Nat → Int32} (hqo : qo < 65) (hqo2 : qo < 2 ∨ 22 ≤ qo) (hqa : qa < 65) (hqa2 : qa < 2 ∨ 22 ≤ qa) (hne : qo ≠ qa) (hro : r qo = .inr (7, [.int len0, .ref (ad qa)])) (hra : r qa = .inl (dA 0, 8, .inl f0)) : gx_Ct l D dA yy_Ro_take cc_Ro_take 5 (some .boolean) 0 0 0 [.ref (ad qo), .int num] (gx_w ad (gm_h dA ad mm r)) (fun v w => ∃ r2, w = gx_w ad (gm_h dA ad mm r2) ∧ (∀ k, k ≠ qo → k ≠ qa → r2 k = r k) ∧ ro_q dA ad v r2 qo qa (ro_of num)) := by
  refine gx_of (by decide) (Nat.le_of_ble_eq_true rfl) (fun K C _ _ => ?_)
  by_cases hneg : num < 0
  · have hRn : ro_of num = none := if_pos hneg
    refine gx_iload_n C 1 dd_Ro_take_0 (kk := ?_)
    refine gx_istore_n C _ dd_Ro_take_1 (kk := ?_)
    refine gx_aload_n C 1 dd_Ro_take_2 (kk := ?_)
    refine gx_iconst (v := nI 0) C dd_Ro_take_3 (kk := ?_)
    refine gz_put C fw_Ro_15 hro dd_Ro_take_4 (hq2 := hqo2) (hq := hqo) (kk := fun r1 hr1 => ?_)
    refine gx_iconst (v := nI 0) C dd_Ro_take_7 (kk := ?_)
    refine gx_istore_n C _ dd_Ro_take_8 (kk := ?_)
    refine gx_iload_n C 0 dd_Ro_take_9 (kk := ?_)
    refine gx_bipush (v := nI 8) C dd_Ro_take_10 (kk := ?_)
    refine gx_icmp_ge C 68 dd_Ro_take_12 (fun h12 => absurd h12 (by decide)) (fun h12 => ?_)
    refine gx_iload_n C 1 dd_Ro_take_15 (kk := ?_)
    refine gx_if_le C 68 dd_Ro_take_16 (fun h16 => ?_) (fun h16 => absurd (Int32.le_of_lt hneg) h16)
    refine gx_iload_n C 1 dd_Ro_take_68 (kk := ?_)
    refine gx_if_ne C 76 dd_Ro_take_69 (fun h69 => ?_) (fun h69 => absurd hneg (by have h := Classical.not_not.mp (fun hh => hh h69); rw [h]; decide))
    refine gx_iconst (v := nI 0) C dd_Ro_take_76 (kk := ?_)
    refine gx_zret C dd_Ro_take_77 (by first | rfl | exact fb_nar) ?_
    exact ⟨r1, rfl, fun k h1 _ => by rw [hr1]; exact gm_un h1, by rw [hRn]; exact ⟨rfl, [], by rw [hr1]; exact gm_us, ⟨f0, by rw [hr1]; exact (gm_un hne.symm).trans hra, fun j d hd => absurd hd (by simp)⟩, by decide, fun d hd => absurd hd List.not_mem_nil⟩⟩
  · obtain ⟨x, hx, hnx⟩ := nI_of hneg
    have hRp : ro_dg 8 x = ro_of num := by
      unfold ro_of
      rw [if_neg hneg, hnx, nI_clamp hx]
    obtain ⟨R, hR⟩ : ∃ R, R = ro_of num := ⟨_, rfl⟩
    rw [← hR] at hRp ⊢
    have loop : ∀ m k x Q r1, k + m = 8 → x < 2 ^ 31 → Q.length = k → (ro_dg m x).map (fun L => Q ++ L) = R → ro_at dA ad r1 qo qa Q → (∀ k, k ≠ qo → k ≠ qa → r1 k = r k) → gx_G K D 5 0 0 9 [(3, .int (nI k)), (2, .int (nI x)), (0, .ref (ad qo)), (1, .int num)] [] (gx_w ad (gm_h dA ad mm r1)) (gx_Z K D dA 0 0 (fun v w => ∃ r2, w = gx_w ad (gm_h dA ad mm r2) ∧ (∀ k, k ≠ qo → k ≠ qa → r2 k = r k) ∧ ro_q dA ad v r2 qo qa R)) := by
      intro m
      induction m with
      | zero =>
        intro k x Q r1 hk hx hQ hR hr1 ho1
        obtain ⟨h1o, ⟨f, h1a, hfl⟩, h1l, h1d⟩ := hr1
        refine gx_iload_n C 0 dd_Ro_take_9 (kk := ?_)
        refine gx_bipush (v := nI 8) C dd_Ro_take_10 (kk := ?_)
        refine gx_icmp_ge C 68 dd_Ro_take_12 (fun h12 => ?_) (fun h12 => absurd (nI_le (a := 8) (b := k) (by omega) (by omega)) h12)
        refine gx_iload_n C 1 dd_Ro_take_68 (kk := ?_)
        refine gx_if_ne C 76 dd_Ro_take_69 (fun h69 => ?_) (fun h69 => ?_)
        · refine gx_iconst (v := nI 0) C dd_Ro_take_76 (kk := ?_)
          refine gx_zret C dd_Ro_take_77 (by first | rfl | exact fb_nar) ?_
          rw [show (0 : Int32) = nI 0 from rfl, nI_eq (by omega) (by decide)] at h69
          have hR2 : ro_dg 0 x = none := by
            unfold ro_dg
            rw [if_neg h69]
          rw [hR2] at hR
          exact ⟨r1, rfl, ho1, by rw [← hR]; exact ⟨rfl, Q, h1o, ⟨f, h1a, hfl⟩, h1l, h1d⟩⟩
        · refine gx_iconst (v := nI 1) C dd_Ro_take_72 (kk := ?_)
          refine gx_goto C 77 dd_Ro_take_73 (kk := ?_)
          refine gx_zret C dd_Ro_take_77 (by first | rfl | exact fb_nar) ?_
          rw [show (0 : Int32) = nI 0 from rfl, nI_eq (by omega) (by decide)] at h69
          have hR2 : ro_dg 0 x = some [] := by
            unfold ro_dg
            rw [if_pos h69]
          rw [hR2] at hR
          have hR : some (Q ++ []) = R := hR
          rw [List.append_nil] at hR
          exact ⟨r1, rfl, ho1, by rw [← hR]; exact ⟨rfl, h1o, ⟨f, h1a, hfl⟩, h1l, h1d⟩⟩
      | succ m ih =>
        intro k x Q r1 hk hx hQ hR hr1 ho1
        obtain ⟨h1o, ⟨f, h1a, hfl⟩, h1l, h1d⟩ := hr1
        refine gx_iload_n C 0 dd_Ro_take_9 (kk := ?_)
        refine gx_bipush (v := nI 8) C dd_Ro_take_10 (kk := ?_)
        refine gx_icmp_ge C 68 dd_Ro_take_12 (fun h12 => absurd h12 (nI_ge (by omega) (by omega))) (fun h12 => ?_)
        refine gx_iload_n C 1 dd_Ro_take_15 (kk := ?_)
        refine gx_if_le C 68 dd_Ro_take_16 (fun h16 => ?_) (fun h16 => ?_)
        · refine gx_iload_n C 1 dd_Ro_take_68 (kk := ?_)
          refine gx_if_ne C 76 dd_Ro_take_69 (fun h69 => ?_) (fun h69 => ?_)
          · refine gx_iconst (v := nI 0) C dd_Ro_take_76 (kk := ?_)
            refine gx_zret C dd_Ro_take_77 (by first | rfl | exact fb_nar) ?_
            rw [show (0 : Int32) = nI 0 from rfl, nI_eq (by omega) (by decide)] at h69
            rw [show (0 : Int32) = nI 0 from rfl, nI_leI (by omega) (by decide)] at h16
            exact absurd (by omega) h69
          · refine gx_iconst (v := nI 1) C dd_Ro_take_72 (kk := ?_)
            refine gx_goto C 77 dd_Ro_take_73 (kk := ?_)
            refine gx_zret C dd_Ro_take_77 (by first | rfl | exact fb_nar) ?_
            rw [show (0 : Int32) = nI 0 from rfl, nI_eq (by omega) (by decide)] at h69
            have hR2 : ro_dg (m + 1) x = some [] := by
              unfold ro_dg
              rw [if_pos h69]
            rw [hR2] at hR
            have hR : some (Q ++ []) = R := hR
            rw [List.append_nil] at hR
            exact ⟨r1, rfl, ho1, by rw [← hR]; exact ⟨rfl, h1o, ⟨f, h1a, hfl⟩, h1l, h1d⟩⟩
        · rw [show (0 : Int32) = nI 0 from rfl, nI_leI (by omega) (by decide)] at h16
          refine gx_iload_n C 1 dd_Ro_take_19 (kk := ?_)
          refine gx_bipush (v := nI 10) C dd_Ro_take_20 (kk := ?_)
          refine gx_irem C dd_Ro_take_22 (kk := ?_)
          refine gx_topi _ (pk_rem (by omega) (by decide) (by decide)) ?_
          refine gx_istore C _ dd_Ro_take_23 (kk := ?_)
          refine gx_iload C 0 dd_Ro_take_25 (kk := ?_)
          refine gx_if_eq C 37 dd_Ro_take_27 (fun h27 => ?_) (fun h27 => ?_)
          · refine gx_iconst (v := nI 0) C dd_Ro_take_37 (kk := ?_)
            refine gx_zret C dd_Ro_take_38 (by first | rfl | exact fb_nar) ?_
            rw [show (0 : Int32) = nI 0 from rfl, nI_eq (by omega) (by decide)] at h27
            have hR2 : ro_dg (m + 1) x = none := by
              unfold ro_dg
              rw [if_neg (by omega), if_pos (by omega)]
            rw [hR2] at hR
            exact ⟨r1, rfl, ho1, by rw [← hR]; exact ⟨rfl, Q, h1o, ⟨f, h1a, hfl⟩, h1l, h1d⟩⟩
          · refine gx_iload C 0 dd_Ro_take_30 (kk := ?_)
            refine gx_bipush (v := nI 7) C dd_Ro_take_32 (kk := ?_)
            refine gx_icmp_le C 39 dd_Ro_take_34 (fun h34 => ?_) (fun h34 => ?_)
            · refine gx_aload_n C 3 dd_Ro_take_39 (kk := ?_)
              refine gx_get C fd_Ro_9 (gm_r h1o hqo2) dd_Ro_take_40 (hq := hqo) (kk := ?_)
              refine gx_iload_n C 1 dd_Ro_take_43 (kk := ?_)
              refine gx_iload C 0 dd_Ro_take_44 (kk := ?_)
              refine gz_iastore C h1a dd_Ro_take_46 (by omega) (hq2 := hqa2) (hq := hqa) (kk := fun r2 hr2 => ?_)
              have h2o : r2 qo = .inr (7, [.int (nI Q.length), .ref (ad qa)]) := by rw [hr2]; exact (gm_un hne).trans h1o
              refine gx_aload_n C 3 dd_Ro_take_47 (kk := ?_)
              refine gx_dup C dd_Ro_take_48 (kk := ?_)
              refine gx_get C fd_Ro_15 (gm_r h2o hqo2) dd_Ro_take_49 (hq := hqo) (kk := ?_)
              refine gx_iconst (v := nI 1) C dd_Ro_take_52 (kk := ?_)
              refine gx_iadd C dd_Ro_take_53 (kk := ?_)
              refine gx_topi _ (nI_add _ _) ?_
              refine gz_put C fw_Ro_15 h2o dd_Ro_take_54 (hq2 := hqo2) (hq := hqo) (kk := fun r3 hr3 => ?_)
              refine gx_iload_n C 2 dd_Ro_take_57 (kk := ?_)
              refine gx_bipush (v := nI 10) C dd_Ro_take_58 (kk := ?_)
              refine gx_idiv C dd_Ro_take_60 (kk := ?_)
              refine gx_topi _ (pk_div (by omega) (by decide) (by decide)) ?_
              refine gx_istore_n C _ dd_Ro_take_61 (kk := ?_)
              refine gx_iinc C 2 (nI (k + 1)) _ dd_Ro_take_62 (nI_1 k) (kk := ?_)
              refine gx_goto C 9 dd_Ro_take_65 (kk := ?_)
              refine gx_loc [0, 1, 3, 4] ?_
              rw [show (0 : Int32) = nI 0 from rfl, nI_eq (by omega) (by decide)] at h27
              rw [nI_leI (by omega) (by decide)] at h34
              have hR2 : ro_dg (m + 1) x = (ro_dg m (x / 10)).map (fun L => x % 10 :: L) := by
                rw [ro_dg, if_neg (by omega), if_neg (by omega)]
              rw [hR2, Option.map_map] at hR
              refine ih (k + 1) (x / 10) (Q ++ [x % 10]) r3 (by omega) (by omega) (by simp; omega) ?_ ?_ ?_
              · rw [← hR]
                congr 1
                funext L
                simp
              · refine ⟨?_, ⟨upd f k (nI (x % 10)), ?_, fun j d hd => ?_⟩, by simp; omega, fun d hd => ?_⟩
                · rw [hr3, gm_us]; simp
                · rw [hr3, gm_un hne.symm, hr2]; exact gm_us
                · by_cases hj : j < k
                  · rw [List.getElem?_append_left (by omega)] at hd
                    rw [pk_un (by omega)]
                    exact hfl j d hd
                  · have hj2 : j = k := by
                      have := (List.getElem?_eq_some_iff.mp hd).1
                      simp at this
                      omega
                    subst hj2
                    rw [List.getElem?_append_right (by omega), show j - Q.length = 0 by omega] at hd
                    cases hd
                    exact pk_us
                · rcases List.mem_append.mp hd with hd | hd
                  · exact h1d d hd
                  · rw [List.mem_singleton.mp hd]; omega
              · intro j hj1 hj2
                rw [hr3, gm_un hj1, hr2, gm_un hj2]
                exact ho1 j hj1 hj2
            · refine gx_iconst (v := nI 0) C dd_Ro_take_37 (kk := ?_)
              refine gx_zret C dd_Ro_take_38 (by first | rfl | exact fb_nar) ?_
              rw [show (0 : Int32) = nI 0 from rfl, nI_eq (by omega) (by decide)] at h27
              rw [nI_leI (by omega) (by decide)] at h34
              have hR2 : ro_dg (m + 1) x = none := by
                unfold ro_dg
                rw [if_neg (by omega), if_pos (by omega)]
              rw [hR2] at hR
              exact ⟨r1, rfl, ho1, by rw [← hR]; exact ⟨rfl, Q, h1o, ⟨f, h1a, hfl⟩, h1l, h1d⟩⟩
    subst hnx
    refine gx_iload_n C 1 dd_Ro_take_0 (kk := ?_)
    refine gx_istore_n C _ dd_Ro_take_1 (kk := ?_)
    refine gx_aload_n C 1 dd_Ro_take_2 (kk := ?_)
    refine gx_iconst (v := nI 0) C dd_Ro_take_3 (kk := ?_)
    refine gz_put C fw_Ro_15 hro dd_Ro_take_4 (hq2 := hqo2) (hq := hqo) (kk := fun r1 hr1 => ?_)
    refine gx_iconst (v := nI 0) C dd_Ro_take_7 (kk := ?_)
    refine gx_istore_n C _ dd_Ro_take_8 (kk := ?_)
    refine loop 8 0 x [] r1 (by omega) hx rfl ?_ ⟨by rw [hr1]; exact gm_us, ⟨f0, by rw [hr1]; exact (gm_un hne.symm).trans hra, fun j d hd => absurd hd (by simp)⟩, by decide, fun d hd => absurd hd List.not_mem_nil⟩ (fun k h1 _ => by rw [hr1]; exact gm_un h1)
    rw [← hRp]
    cases ro_dg 8 x <;> rfl
set_option maxRecDepth 100000 in
set_option maxHeartbeats 4000000 in
theorem ct_Ro_doneAfter (l : Launch) (D : va_G) (dA : Nat → ClassId) (ad : Nat → Nat) (mm : Nat → gm_V) (r : Nat → va_E) {qo qa i b : Nat} {L : List Nat} (hqo : qo < 65) (hqo2 : qo < 2 ∨ 22 ≤ qo) (hqa : qa < 65) (hqa2 : qa < 2 ∨ 22 ≤ qa) (hr : ro_at dA ad r qo qa L) (hi : i ≤ L.length) (hb : b < 8) : gx_Ct l D dA yy_Ro_doneAfter cc_Ro_doneAfter 4 (some .int) 0 0 0 [.ref (ad qo), .int (nI i), .int (nI b)] (gx_w ad (gm_h dA ad mm r)) (fun v w => v = some (.int (on_r (ro_dn L.reverse i b))) ∧ w = (gx_w ad (gm_h dA ad mm r))) := by
  refine gx_of (by decide) (Nat.le_of_ble_eq_true rfl) (fun K C _ _ => ?_)
  obtain ⟨h1o, ⟨f, h1a, hfl⟩, h1l, h1d⟩ := hr
  refine gx_iload_n C 2 dd_Ro_doneAfter_0 (kk := ?_)
  refine gx_if_ne C 6 dd_Ro_doneAfter_1 (fun h1 => ?_) (fun h1 => ?_)
  · refine gx_iload_n C 1 dd_Ro_doneAfter_6 (kk := ?_)
    refine gx_aload_n C 0 dd_Ro_doneAfter_7 (kk := ?_)
    refine gx_get C fd_Ro_15 (gm_r h1o hqo2) dd_Ro_doneAfter_8 (hq := hqo) (kk := ?_)
    refine gx_icmp_ge C 35 dd_Ro_doneAfter_11 (fun h11 => ?_) (fun h11 => ?_)
    · refine gx_iconst (v := nI 0) C dd_Ro_doneAfter_35 (kk := ?_)
      refine gx_istore_n C _ dd_Ro_doneAfter_36 (kk := ?_)
      refine gx_iload_n C 0 dd_Ro_doneAfter_37 (kk := ?_)
      refine gx_if_eq C 47 dd_Ro_doneAfter_38 (fun h38 => ?_) (fun h38 => absurd rfl h38)
      refine gx_iconst (v := -1) C dd_Ro_doneAfter_47 (kk := ?_)
      refine gx_iret C dd_Ro_doneAfter_48 ?_
      rw [show (0 : Int32) = nI 0 from rfl, nI_eq (by omega) (by decide)] at h1
      refine ⟨?_, rfl⟩
      unfold ro_dn
      rw [if_neg h1]
      rw [nI_leI (by omega) (by omega)] at h11
      rw [if_neg (by rw [List.getElem?_eq_none (by simp; omega)]; exact fun h => by cases h)]
      rfl
    · have h11b : i < L.length := by
        rw [nI_leI (by omega) (by omega)] at h11
        omega
      refine gx_aload_n C 0 dd_Ro_doneAfter_14 (kk := ?_)
      refine gx_get C fd_Ro_9 (gm_r h1o hqo2) dd_Ro_doneAfter_15 (hq := hqo) (kk := ?_)
      refine gx_aload_n C 0 dd_Ro_doneAfter_18 (kk := ?_)
      refine gx_get C fd_Ro_15 (gm_r h1o hqo2) dd_Ro_doneAfter_19 (hq := hqo) (kk := ?_)
      refine gx_iconst (v := nI 1) C dd_Ro_doneAfter_22 (kk := ?_)
      refine gx_isub C dd_Ro_doneAfter_23 (kk := ?_)
      refine gx_topi _ (pk_sub (by omega)) ?_
      refine gx_iload_n C 1 dd_Ro_doneAfter_24 (kk := ?_)
      refine gx_isub C dd_Ro_doneAfter_25 (kk := ?_)
      refine gx_topi _ (pk_sub (by omega)) ?_
      obtain ⟨d, hd⟩ : ∃ d, L[L.length - 1 - i]? = some d := ⟨_, List.getElem?_eq_getElem (by omega)⟩
      have hd8 := h1d d (List.mem_of_getElem? hd)
      refine gz_iaload C h1a dd_Ro_doneAfter_26 (by omega) (hq2 := hqa2) (hq := hqa) (kk := ?_)
      refine gx_topi _ (hfl _ _ hd) ?_
      refine gx_iload_n C 2 dd_Ro_doneAfter_27 (kk := ?_)
      refine gx_icmp_ne C 35 dd_Ro_doneAfter_28 (fun h28 => ?_) (fun h28 => ?_)
      · refine gx_iconst (v := nI 0) C dd_Ro_doneAfter_35 (kk := ?_)
        refine gx_istore_n C _ dd_Ro_doneAfter_36 (kk := ?_)
        refine gx_iload_n C 0 dd_Ro_doneAfter_37 (kk := ?_)
        refine gx_if_eq C 47 dd_Ro_doneAfter_38 (fun h38 => ?_) (fun h38 => absurd rfl h38)
        refine gx_iconst (v := -1) C dd_Ro_doneAfter_47 (kk := ?_)
        refine gx_iret C dd_Ro_doneAfter_48 ?_
        rw [show (0 : Int32) = nI 0 from rfl, nI_eq (by omega) (by decide)] at h1
        refine ⟨?_, rfl⟩
        unfold ro_dn
        rw [if_neg h1]
        rw [nI_eq (by omega) (by omega)] at h28
        have hrev : L.reverse[i]? = some d := by rw [List.getElem?_reverse (by omega)]; exact hd
        rw [if_neg (by rw [hrev]; exact fun h => h28 (Option.some.inj h))]
        rfl
      · refine gx_iconst (v := nI 1) C dd_Ro_doneAfter_31 (kk := ?_)
        refine gx_goto C 36 dd_Ro_doneAfter_32 (kk := ?_)
        refine gx_istore_n C _ dd_Ro_doneAfter_36 (kk := ?_)
        refine gx_iload_n C 0 dd_Ro_doneAfter_37 (kk := ?_)
        refine gx_if_eq C 47 dd_Ro_doneAfter_38 (fun h38 => absurd h38 (by decide)) (fun h38 => ?_)
        refine gx_iload_n C 2 dd_Ro_doneAfter_41 (kk := ?_)
        refine gx_iconst (v := nI 1) C dd_Ro_doneAfter_42 (kk := ?_)
        refine gx_iadd C dd_Ro_doneAfter_43 (kk := ?_)
        refine gx_goto C 48 dd_Ro_doneAfter_44 (kk := ?_)
        refine gx_iret C dd_Ro_doneAfter_48 ?_
        rw [show (0 : Int32) = nI 0 from rfl, nI_eq (by omega) (by decide)] at h1
        refine ⟨?_, rfl⟩
        unfold ro_dn
        rw [if_neg h1]
        rw [nI_eq (by omega) (by omega)] at h28
        have hrev : L.reverse[i]? = some d := by rw [List.getElem?_reverse (by omega)]; exact hd
        rw [if_pos (by rw [hrev, h28])]
        show some (Value.int (nI i + nI 1)) = _
        rw [nI_add]
        rfl
  · refine gx_iload_n C 1 dd_Ro_doneAfter_4 (kk := ?_)
    refine gx_iret C dd_Ro_doneAfter_5 ?_
    rw [show (0 : Int32) = nI 0 from rfl, nI_eq (by omega) (by decide)] at h1
    refine ⟨?_, rfl⟩
    unfold ro_dn
    rw [if_pos h1]
    rfl
set_option maxRecDepth 100000 in
set_option maxHeartbeats 4000000 in
theorem ct_We_baseOf (l : Launch) (D : va_G) (dA : Nat → ClassId) (ws : va_W) (i j : Nat) : gx_Ct l D dA yy_We_baseOf cc_We_baseOf 2 (some .int) 0 0 0 [.int (nI i), .int (nI j)] ws (fun v w => v = some (.int (nI ((i * 9 + j) * 16))) ∧ w = ws) := by
  refine gx_of (by decide) (Nat.le_of_ble_eq_true rfl) (fun K C _ _ => ?_)
  refine gx_iload_n C 0 dd_We_baseOf_0 (kk := ?_)
  refine gx_bipush (v := nI 9) C dd_We_baseOf_1 (kk := ?_)
  refine gx_imul C dd_We_baseOf_3 (kk := ?_)
  refine gx_iload_n C 1 dd_We_baseOf_4 (kk := ?_)
  refine gx_iadd C dd_We_baseOf_5 (kk := ?_)
  refine gx_bipush (v := nI 16) C dd_We_baseOf_6 (kk := ?_)
  refine gx_imul C dd_We_baseOf_8 (kk := ?_)
  refine gx_iret C dd_We_baseOf_9 ?_
  rw [pk_mul, nI_add, pk_mul]
  exact ⟨rfl, rfl⟩
