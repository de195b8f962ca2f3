theorem dd_JI_bitCount_0 : decode cc_JI_bitCount 0 = .ok (.iload_n 0, 1) := by decide +kernel
theorem dd_JI_bitCount_1 : decode cc_JI_bitCount 1 = .ok (.iload_n 0, 1) := by decide +kernel
theorem dd_JI_bitCount_2 : decode cc_JI_bitCount 2 = .ok (.iconst 1, 1) := by decide +kernel
theorem dd_JI_bitCount_3 : decode cc_JI_bitCount 3 = .ok (.iushr, 1) := by decide +kernel
theorem dd_JI_bitCount_4 : decode cc_JI_bitCount 4 = .ok (.ldc_w 265, 3) := by decide +kernel
theorem dd_JI_bitCount_7 : decode cc_JI_bitCount 7 = .ok (.iand, 1) := by decide +kernel
theorem dd_JI_bitCount_8 : decode cc_JI_bitCount 8 = .ok (.isub, 1) := by decide +kernel
theorem dd_JI_bitCount_9 : decode cc_JI_bitCount 9 = .ok (.istore_n 0, 1) := by decide +kernel
theorem dd_JI_bitCount_10 : decode cc_JI_bitCount 10 = .ok (.iload_n 0, 1) := by decide +kernel
theorem dd_JI_bitCount_11 : decode cc_JI_bitCount 11 = .ok (.ldc_w 266, 3) := by decide +kernel
theorem dd_JI_bitCount_14 : decode cc_JI_bitCount 14 = .ok (.iand, 1) := by decide +kernel
theorem dd_JI_bitCount_15 : decode cc_JI_bitCount 15 = .ok (.iload_n 0, 1) := by decide +kernel
theorem dd_JI_bitCount_16 : decode cc_JI_bitCount 16 = .ok (.iconst 2, 1) := by decide +kernel
theorem dd_JI_bitCount_17 : decode cc_JI_bitCount 17 = .ok (.iushr, 1) := by decide +kernel
theorem dd_JI_bitCount_18 : decode cc_JI_bitCount 18 = .ok (.ldc_w 266, 3) := by decide +kernel
theorem dd_JI_bitCount_21 : decode cc_JI_bitCount 21 = .ok (.iand, 1) := by decide +kernel
theorem dd_JI_bitCount_22 : decode cc_JI_bitCount 22 = .ok (.iadd, 1) := by decide +kernel
theorem dd_JI_bitCount_23 : decode cc_JI_bitCount 23 = .ok (.istore_n 0, 1) := by decide +kernel
theorem dd_JI_bitCount_24 : decode cc_JI_bitCount 24 = .ok (.iload_n 0, 1) := by decide +kernel
theorem dd_JI_bitCount_25 : decode cc_JI_bitCount 25 = .ok (.iload_n 0, 1) := by decide +kernel
theorem dd_JI_bitCount_26 : decode cc_JI_bitCount 26 = .ok (.iconst 4, 1) := by decide +kernel
theorem dd_JI_bitCount_27 : decode cc_JI_bitCount 27 = .ok (.iushr, 1) := by decide +kernel
theorem dd_JI_bitCount_28 : decode cc_JI_bitCount 28 = .ok (.iadd, 1) := by decide +kernel
theorem dd_JI_bitCount_29 : decode cc_JI_bitCount 29 = .ok (.ldc_w 267, 3) := by decide +kernel
theorem dd_JI_bitCount_32 : decode cc_JI_bitCount 32 = .ok (.iand, 1) := by decide +kernel
theorem dd_JI_bitCount_33 : decode cc_JI_bitCount 33 = .ok (.istore_n 0, 1) := by decide +kernel
theorem dd_JI_bitCount_34 : decode cc_JI_bitCount 34 = .ok (.iload_n 0, 1) := by decide +kernel
theorem dd_JI_bitCount_35 : decode cc_JI_bitCount 35 = .ok (.iload_n 0, 1) := by decide +kernel
theorem dd_JI_bitCount_36 : decode cc_JI_bitCount 36 = .ok (.bipush 8, 2) := by decide +kernel
theorem dd_JI_bitCount_38 : decode cc_JI_bitCount 38 = .ok (.iushr, 1) := by decide +kernel
theorem dd_JI_bitCount_39 : decode cc_JI_bitCount 39 = .ok (.iadd, 1) := by decide +kernel
theorem dd_JI_bitCount_40 : decode cc_JI_bitCount 40 = .ok (.istore_n 0, 1) := by decide +kernel
theorem dd_JI_bitCount_41 : decode cc_JI_bitCount 41 = .ok (.iload_n 0, 1) := by decide +kernel
theorem dd_JI_bitCount_42 : decode cc_JI_bitCount 42 = .ok (.iload_n 0, 1) := by decide +kernel
theorem dd_JI_bitCount_43 : decode cc_JI_bitCount 43 = .ok (.bipush 16, 2) := by decide +kernel
theorem dd_JI_bitCount_45 : decode cc_JI_bitCount 45 = .ok (.iushr, 1) := by decide +kernel
theorem dd_JI_bitCount_46 : decode cc_JI_bitCount 46 = .ok (.iadd, 1) := by decide +kernel
theorem dd_JI_bitCount_47 : decode cc_JI_bitCount 47 = .ok (.istore_n 0, 1) := by decide +kernel
theorem dd_JI_bitCount_48 : decode cc_JI_bitCount 48 = .ok (.iload_n 0, 1) := by decide +kernel
theorem dd_JI_bitCount_49 : decode cc_JI_bitCount 49 = .ok (.bipush 63, 2) := by decide +kernel
theorem dd_JI_bitCount_51 : decode cc_JI_bitCount 51 = .ok (.iand, 1) := by decide +kernel
theorem dd_JI_bitCount_52 : decode cc_JI_bitCount 52 = .ok (.ireturn, 1) := by decide +kernel
theorem dd_WM_rankIn_0 : decode cc_WM_rankIn 0 = .ok (.iload_n 0, 1) := by decide +kernel
theorem dd_WM_rankIn_1 : decode cc_WM_rankIn 1 = .ok (.iconst 1, 1) := by decide +kernel
theorem dd_WM_rankIn_2 : decode cc_WM_rankIn 2 = .ok (.iload_n 1, 1) := by decide +kernel
theorem dd_WM_rankIn_3 : decode cc_WM_rankIn 3 = .ok (.ishl, 1) := by decide +kernel
theorem dd_WM_rankIn_4 : decode cc_WM_rankIn 4 = .ok (.iconst 1, 1) := by decide +kernel
theorem dd_WM_rankIn_5 : decode cc_WM_rankIn 5 = .ok (.isub, 1) := by decide +kernel
theorem dd_WM_rankIn_6 : decode cc_WM_rankIn 6 = .ok (.iand, 1) := by decide +kernel
theorem dd_WM_rankIn_7 : decode cc_WM_rankIn 7 = .ok (.invokestatic 229, 3) := by decide +kernel
theorem dd_WM_rankIn_10 : decode cc_WM_rankIn 10 = .ok (.ireturn, 1) := by decide +kernel
theorem dd_WM_arcPart_0 : decode cc_WM_arcPart 0 = .ok (.iload_n 3, 1) := by decide +kernel
theorem dd_WM_arcPart_1 : decode cc_WM_arcPart 1 = .ok (.tableswitch 58 0 4 #[35, 40, 45, 50, 55], 35) := by decide +kernel
theorem dd_WM_arcPart_36 : decode cc_WM_arcPart 36 = .ok (.iload_n 0, 1) := by decide +kernel
theorem dd_WM_arcPart_37 : decode cc_WM_arcPart 37 = .ok (.invokestatic 217, 3) := by decide +kernel
theorem dd_WM_arcPart_40 : decode cc_WM_arcPart 40 = .ok (.ireturn, 1) := by decide +kernel
theorem dd_WM_arcPart_41 : decode cc_WM_arcPart 41 = .ok (.iload_n 0, 1) := by decide +kernel
theorem dd_WM_arcPart_42 : decode cc_WM_arcPart 42 = .ok (.invokestatic 220, 3) := by decide +kernel
theorem dd_WM_arcPart_45 : decode cc_WM_arcPart 45 = .ok (.ireturn, 1) := by decide +kernel
theorem dd_WM_arcPart_46 : decode cc_WM_arcPart 46 = .ok (.iload_n 0, 1) := by decide +kernel
theorem dd_WM_arcPart_47 : decode cc_WM_arcPart 47 = .ok (.invokestatic 244, 3) := by decide +kernel
theorem dd_WM_arcPart_50 : decode cc_WM_arcPart 50 = .ok (.ireturn, 1) := by decide +kernel
theorem dd_WM_arcPart_51 : decode cc_WM_arcPart 51 = .ok (.iload_n 0, 1) := by decide +kernel
theorem dd_WM_arcPart_52 : decode cc_WM_arcPart 52 = .ok (.invokestatic 247, 3) := by decide +kernel
theorem dd_WM_arcPart_55 : decode cc_WM_arcPart 55 = .ok (.ireturn, 1) := by decide +kernel
theorem dd_WM_arcPart_56 : decode cc_WM_arcPart 56 = .ok (.lload_n 1, 1) := by decide +kernel
theorem dd_WM_arcPart_57 : decode cc_WM_arcPart 57 = .ok (.l2i, 1) := by decide +kernel
theorem dd_WM_arcPart_58 : decode cc_WM_arcPart 58 = .ok (.ireturn, 1) := by decide +kernel
theorem dd_WM_arcPart_59 : decode cc_WM_arcPart 59 = .ok (.iconst (-1), 1) := by decide +kernel
theorem dd_WM_arcPart_60 : decode cc_WM_arcPart 60 = .ok (.ireturn, 1) := by decide +kernel
theorem dd_WM_isState_0 : decode cc_WM_isState 0 = .ok (.iload_n 1, 1) := by decide +kernel
theorem dd_WM_isState_1 : decode cc_WM_isState 1 = .ok (.invokestatic 76, 3) := by decide +kernel
theorem dd_WM_isState_4 : decode cc_WM_isState 4 = .ok (.ifCond .eq 24, 3) := by decide +kernel
theorem dd_WM_isState_7 : decode cc_WM_isState 7 = .ok (.iload_n 2, 1) := by decide +kernel
theorem dd_WM_isState_8 : decode cc_WM_isState 8 = .ok (.ifCond .lt 20, 3) := by decide +kernel
theorem dd_WM_isState_11 : decode cc_WM_isState 11 = .ok (.iload_n 2, 1) := by decide +kernel
theorem dd_WM_isState_12 : decode cc_WM_isState 12 = .ok (.aload_n 0, 1) := by decide +kernel
theorem dd_WM_isState_13 : decode cc_WM_isState 13 = .ok (.getfield 11, 3) := by decide +kernel
theorem dd_WM_isState_16 : decode cc_WM_isState 16 = .ok (.iload_n 1, 1) := by decide +kernel
theorem dd_WM_isState_17 : decode cc_WM_isState 17 = .ok (.aaload, 1) := by decide +kernel
theorem dd_WM_isState_18 : decode cc_WM_isState 18 = .ok (.getfield 120, 3) := by decide +kernel
theorem dd_WM_isState_21 : decode cc_WM_isState 21 = .ok (.if_icmp .ge 7, 3) := by decide +kernel
theorem dd_WM_isState_24 : decode cc_WM_isState 24 = .ok (.iconst 1, 1) := by decide +kernel
theorem dd_WM_isState_25 : decode cc_WM_isState 25 = .ok (.goto 4, 3) := by decide +kernel
theorem dd_WM_isState_28 : decode cc_WM_isState 28 = .ok (.iconst 0, 1) := by decide +kernel
theorem dd_WM_isState_29 : decode cc_WM_isState 29 = .ok (.ireturn, 1) := by decide +kernel
theorem dd_WM_areLetters_0 : decode cc_WM_areLetters 0 = .ok (.iconst 0, 1) := by decide +kernel
theorem dd_WM_areLetters_1 : decode cc_WM_areLetters 1 = .ok (.istore_n 3, 1) := by decide +kernel
theorem dd_WM_areLetters_2 : decode cc_WM_areLetters 2 = .ok (.iload_n 3, 1) := by decide +kernel
theorem dd_WM_areLetters_3 : decode cc_WM_areLetters 3 = .ok (.iload_n 2, 1) := by decide +kernel
theorem dd_WM_areLetters_4 : decode cc_WM_areLetters 4 = .ok (.if_icmp .ge 41, 3) := by decide +kernel
theorem dd_WM_areLetters_7 : decode cc_WM_areLetters 7 = .ok (.lload_n 0, 1) := by decide +kernel
theorem dd_WM_areLetters_8 : decode cc_WM_areLetters 8 = .ok (.bipush 8, 2) := by decide +kernel
theorem dd_WM_areLetters_10 : decode cc_WM_areLetters 10 = .ok (.iload_n 3, 1) := by decide +kernel
theorem dd_WM_areLetters_11 : decode cc_WM_areLetters 11 = .ok (.imul, 1) := by decide +kernel
theorem dd_WM_areLetters_12 : decode cc_WM_areLetters 12 = .ok (.lshr, 1) := by decide +kernel
theorem dd_WM_areLetters_13 : decode cc_WM_areLetters 13 = .ok (.ldc2_w 199, 3) := by decide +kernel
theorem dd_WM_areLetters_16 : decode cc_WM_areLetters 16 = .ok (.land, 1) := by decide +kernel
theorem dd_WM_areLetters_17 : decode cc_WM_areLetters 17 = .ok (.lstore 4, 2) := by decide +kernel
theorem dd_WM_areLetters_19 : decode cc_WM_areLetters 19 = .ok (.lload 4, 2) := by decide +kernel
theorem dd_WM_areLetters_21 : decode cc_WM_areLetters 21 = .ok (.ldc2_w 210, 3) := by decide +kernel
theorem dd_WM_areLetters_24 : decode cc_WM_areLetters 24 = .ok (.lcmp, 1) := by decide +kernel
theorem dd_WM_areLetters_25 : decode cc_WM_areLetters 25 = .ok (.ifCond .lt 12, 3) := by decide +kernel
theorem dd_WM_areLetters_28 : decode cc_WM_areLetters 28 = .ok (.lload 4, 2) := by decide +kernel
theorem dd_WM_areLetters_30 : decode cc_WM_areLetters 30 = .ok (.ldc2_w 212, 3) := by decide +kernel
theorem dd_WM_areLetters_33 : decode cc_WM_areLetters 33 = .ok (.lcmp, 1) := by decide +kernel
theorem dd_WM_areLetters_34 : decode cc_WM_areLetters 34 = .ok (.ifCond .le 5, 3) := by decide +kernel
theorem dd_WM_areLetters_37 : decode cc_WM_areLetters 37 = .ok (.iconst 0, 1) := by decide +kernel
theorem dd_WM_areLetters_38 : decode cc_WM_areLetters 38 = .ok (.ireturn, 1) := by decide +kernel
theorem dd_WM_areLetters_39 : decode cc_WM_areLetters 39 = .ok (.iinc 3 1, 3) := by decide +kernel
theorem dd_WM_areLetters_42 : decode cc_WM_areLetters 42 = .ok (.goto (-40), 3) := by decide +kernel
theorem dd_WM_areLetters_45 : decode cc_WM_areLetters 45 = .ok (.iconst 1, 1) := by decide +kernel
theorem dd_WM_areLetters_46 : decode cc_WM_areLetters 46 = .ok (.ireturn, 1) := by decide +kernel
theorem dd_WM_take_0 : decode cc_WM_take 0 = .ok (.iload_n 1, 1) := by decide +kernel
theorem dd_WM_take_1 : decode cc_WM_take 1 = .ok (.ifCond .eq 13, 3) := by decide +kernel
theorem dd_WM_take_4 : decode cc_WM_take 4 = .ok (.aload_n 0, 1) := by decide +kernel
theorem dd_WM_take_5 : decode cc_WM_take 5 = .ok (.getfield 16, 3) := by decide +kernel
theorem dd_WM_take_8 : decode cc_WM_take 8 = .ok (.invokevirtual 214, 3) := by decide +kernel
theorem dd_WM_take_11 : decode cc_WM_take 11 = .ok (.ifCond .ne 5, 3) := by decide +kernel
theorem dd_WM_take_14 : decode cc_WM_take 14 = .ok (.iconst 0, 1) := by decide +kernel
theorem dd_WM_take_15 : decode cc_WM_take 15 = .ok (.ireturn, 1) := by decide +kernel
theorem dd_WM_take_16 : decode cc_WM_take 16 = .ok (.aload_n 0, 1) := by decide +kernel
theorem dd_WM_take_17 : decode cc_WM_take 17 = .ok (.getfield 11, 3) := by decide +kernel
theorem dd_WM_take_20 : decode cc_WM_take 20 = .ok (.iload_n 2, 1) := by decide +kernel
theorem dd_WM_take_21 : decode cc_WM_take 21 = .ok (.aaload, 1) := by decide +kernel
theorem dd_WM_take_22 : decode cc_WM_take 22 = .ok (.astore_n 3, 1) := by decide +kernel
theorem dd_WM_take_23 : decode cc_WM_take 23 = .ok (.aload_n 0, 1) := by decide +kernel
theorem dd_WM_take_24 : decode cc_WM_take 24 = .ok (.getfield 11, 3) := by decide +kernel
theorem dd_WM_take_27 : decode cc_WM_take 27 = .ok (.iload_n 2, 1) := by decide +kernel
theorem dd_WM_take_28 : decode cc_WM_take 28 = .ok (.aload_n 0, 1) := by decide +kernel
theorem dd_WM_take_29 : decode cc_WM_take 29 = .ok (.getfield 16, 3) := by decide +kernel
theorem dd_WM_take_32 : decode cc_WM_take 32 = .ok (.aastore, 1) := by decide +kernel
theorem dd_WM_take_33 : decode cc_WM_take 33 = .ok (.aload_n 0, 1) := by decide +kernel
theorem dd_WM_take_34 : decode cc_WM_take 34 = .ok (.aload_n 3, 1) := by decide +kernel
theorem dd_WM_take_35 : decode cc_WM_take 35 = .ok (.putfield 16, 3) := by decide +kernel
theorem dd_WM_take_38 : decode cc_WM_take 38 = .ok (.iconst 1, 1) := by decide +kernel
theorem dd_WM_take_39 : decode cc_WM_take 39 = .ok (.ireturn, 1) := by decide +kernel
/-! COUNTING BITS -/
def pc_ct (b : Nat) : Nat → Nat
  | 0 => 0
  | n + 1 => pc_ct b n + (b.testBit n).toNat
def bc_1 (b : Nat) : Nat := b - (b / 2 &&& 1431655765)
def bc_2 (b : Nat) : Nat := (b &&& 858993459) + (b / 4 &&& 858993459)
def bc_3 (b : Nat) : Nat := (b + b / 16) &&& 252645135
def bc_n (b : Nat) : Nat := let c := bc_3 (bc_2 (bc_1 b)); let d := c + c / 256; (d + d / 65536) &&& 63
theorem bc_and (x m : Nat) : x &&& m = (x / 256 &&& m / 256) * 256 + (x % 256 &&& m % 256) := by
  have h1 := Nat.and_mod_two_pow (n := 8) (a := x) (b := m)
  have h2 : (x &&& m) / 2 ^ 8 = x / 2 ^ 8 &&& m / 2 ^ 8 := by
    rw [← Nat.shiftRight_eq_div_pow, ← Nat.shiftRight_eq_div_pow, ← Nat.shiftRight_eq_div_pow, Nat.shiftRight_and_distrib]
  rw [show (2 : Nat) ^ 8 = 256 by decide] at h1 h2
  rw [← h1, ← h2]
  omega
theorem bc_1a : ∀ h, h < 256 → (h / 2 &&& 1431655765 / 256) = (h / 2 &&& 1431655765) ∧ (h / 2 &&& 1431655765) ≤ h := by decide +kernel
theorem bc_1b : ∀ p, p < 2 → ∀ l, l < 256 → ((p * 128 + l / 2) &&& 1431655765 % 256) = (l / 2 &&& 1431655765) := by decide +kernel
theorem bc_s1 {h l : Nat} (hh : h < 256) (hl : l < 256) : bc_1 (h * 256 + l) = bc_1 h * 256 + bc_1 l := by
  unfold bc_1
  rw [bc_and ((h * 256 + l) / 2), show (h * 256 + l) / 2 / 256 = h / 2 by omega, show (h * 256 + l) / 2 % 256 = h % 2 * 128 + l / 2 by omega, (bc_1a h hh).1, bc_1b (h % 2) (by omega) l hl]
  have h1 := (bc_1a h hh).2
  have h2 := (bc_1a l hl).2
  generalize (h / 2 &&& 1431655765) = A at h1 ⊢
  generalize (l / 2 &&& 1431655765) = B at h2 ⊢
  omega
theorem bc_2a : ∀ h, h < 256 → (h &&& 858993459 / 256) = (h &&& 858993459) ∧ (h / 4 &&& 858993459 / 256) = (h / 4 &&& 858993459) ∧ (h &&& 858993459 % 256) = (h &&& 858993459) := by decide +kernel
theorem bc_2b : ∀ p, p < 4 → ∀ l, l < 256 → ((p * 64 + l / 4) &&& 858993459 % 256) = (l / 4 &&& 858993459) := by decide +kernel
theorem bc_s2 {h l : Nat} (hh : h < 256) (hl : l < 256) : bc_2 (h * 256 + l) = bc_2 h * 256 + bc_2 l := by
  unfold bc_2
  rw [bc_and ((h * 256 + l) / 4), bc_and (h * 256 + l), show (h * 256 + l) / 256 = h by omega, show (h * 256 + l) % 256 = l by omega, show (h * 256 + l) / 4 / 256 = h / 4 by omega, show (h * 256 + l) / 4 % 256 = h % 4 * 64 + l / 4 by omega, (bc_2a h hh).1, (bc_2a h hh).2.1, (bc_2a l hl).2.2, bc_2b (h % 4) (by omega) l hl]
  omega
theorem bc_3a : ∀ h, h < 256 → bc_1 h < 256 ∧ bc_2 (bc_1 h) ≤ 68 ∧ bc_2 (bc_1 h) % 16 ≤ 4 ∧ bc_3 (bc_2 (bc_1 h)) ≤ 8 := by decide +kernel
theorem bc_3b : ∀ h, h < 69 → ((h + h / 16) &&& 252645135 / 256) = ((h + h / 16) &&& 252645135) := by decide +kernel
theorem bc_3c : ∀ p, p < 5 → ∀ l, l < 69 → l % 16 ≤ 4 → ((p * 16 + l + l / 16) &&& 252645135 % 256) = ((l + l / 16) &&& 252645135) := by decide +kernel
theorem bc_s3 {h l : Nat} (hh : h ≤ 68) (hh2 : h % 16 ≤ 4) (hl : l ≤ 68) (hl2 : l % 16 ≤ 4) : bc_3 (h * 256 + l) = bc_3 h * 256 + bc_3 l := by
  unfold bc_3
  rw [bc_and, show (h * 256 + l + (h * 256 + l) / 16) / 256 = h + h / 16 by omega, show (h * 256 + l + (h * 256 + l) / 16) % 256 = h % 16 * 16 + l + l / 16 by omega, bc_3b h (by omega), bc_3c (h % 16) (by omega) l (by omega) hl2]
theorem bc_s {h l : Nat} (hh : h < 256) (hl : l < 256) : bc_n (h * 256 + l) = bc_3 (bc_2 (bc_1 h)) + bc_3 (bc_2 (bc_1 l)) := by
  have a := bc_3a h hh
  have b := bc_3a l hl
  unfold bc_n
  rw [bc_s1 hh hl, bc_s2 a.1 b.1, bc_s3 a.2.1 a.2.2.1 b.2.1 b.2.2.1]
  have a4 := a.2.2.2
  have b4 := b.2.2.2
  generalize bc_3 (bc_2 (bc_1 h)) = A at a4 ⊢
  generalize bc_3 (bc_2 (bc_1 l)) = B at b4 ⊢
  show ((A * 256 + B + (A * 256 + B) / 256) + (A * 256 + B + (A * 256 + B) / 256) / 65536) &&& 63 = A + B
  rw [show ((A * 256 + B + (A * 256 + B) / 256) + (A * 256 + B + (A * 256 + B) / 256) / 65536) = A * 256 + B + A by omega, show (63 : Nat) = 2 ^ 6 - 1 by decide, Nat.and_two_pow_sub_one_eq_mod]
  omega
def bc_p (b : Nat) : Nat → Nat
  | 0 => 0
  | n + 1 => b % 2 + bc_p (b / 2) n
theorem bc_8 : ∀ h, h < 256 → bc_3 (bc_2 (bc_1 h)) = bc_p h 8 := by decide +kernel
theorem bc_p8 : ∀ n h l, l < 2 ^ n → bc_p (h * 2 ^ n + l) (n + 8) = bc_p l n + bc_p h 8
  | 0, h, l, hl => by
    have : l = 0 := by simpa using hl
    subst this
    simp [bc_p]
  | n + 1, h, l, hl => by
    rw [show n + 1 + 8 = n + 8 + 1 by omega]
    show (h * 2 ^ (n + 1) + l) % 2 + bc_p ((h * 2 ^ (n + 1) + l) / 2) (n + 8) = l % 2 + bc_p (l / 2) n + bc_p h 8
    have e : h * 2 ^ (n + 1) = h * 2 ^ n * 2 := by rw [Nat.pow_succ, Nat.mul_assoc]
    have e2 : 2 ^ (n + 1) = 2 ^ n * 2 := Nat.pow_succ 2 n
    rw [e, show (h * 2 ^ n * 2 + l) / 2 = h * 2 ^ n + l / 2 by omega, bc_p8 n h (l / 2) (by omega)]
    omega
theorem bc_eqp {b : Nat} (h : b < 65536) : bc_n b = bc_p b 16 := by
  have h1 := bc_s (h := b / 256) (l := b % 256) (by omega) (by omega)
  rw [show b / 256 * 256 + b % 256 = b by omega, bc_8 _ (by omega), bc_8 _ (by omega)] at h1
  have h2 := bc_p8 8 (b / 256) (b % 256) (by omega)
  rw [show b / 256 * 2 ^ 8 + b % 256 = b by omega] at h2
  rw [h1, h2]
  omega
theorem pc_sh (b : Nat) : ∀ n, pc_ct b (n + 1) = b % 2 + pc_ct (b / 2) n
  | 0 => by
    show 0 + (b.testBit 0).toNat = b % 2 + 0
    rw [Nat.testBit_zero]
    rcases Nat.mod_two_eq_zero_or_one b with h | h <;> rw [h] <;> rfl
  | n + 1 => by
    show pc_ct b (n + 1) + (b.testBit (n + 1)).toNat = b % 2 + (pc_ct (b / 2) n + ((b / 2).testBit n).toNat)
    rw [pc_sh b n, Nat.testBit_succ]
    omega
theorem bc_p_ct : ∀ n b, bc_p b n = pc_ct b n
  | 0, b => rfl
  | n + 1, b => by rw [pc_sh, bc_p, bc_p_ct n]
theorem bc_eq {b : Nat} (h : b < 65536) : bc_n b = pc_ct b 16 := by rw [bc_eqp h, bc_p_ct]
theorem pc_mod (b q : Nat) : ∀ n, pc_ct (b % 2 ^ q) n = pc_ct b (min q n)
  | 0 => by rw [Nat.min_zero]; rfl
  | n + 1 => by
    show pc_ct (b % 2 ^ q) n + ((b % 2 ^ q).testBit n).toNat = _
    rw [pc_mod b q n, Nat.testBit_mod_two_pow]
    by_cases h : n < q
    · rw [show min q n = n by omega, show min q (n + 1) = n + 1 by omega, decide_eq_true h, Bool.true_and]
      rfl
    · rw [show min q n = q by omega, show min q (n + 1) = q by omega, decide_eq_false h]
      rfl
theorem pc_le (b : Nat) : ∀ n, pc_ct b n ≤ n
  | 0 => Nat.le_refl _
  | n + 1 => by
    have := pc_le b n
    show pc_ct b n + (b.testBit n).toNat ≤ n + 1
    have h : (b.testBit n).toNat ≤ 1 := by cases b.testBit n <;> decide
    omega
theorem pc_mono (b : Nat) {m n : Nat} (h : m ≤ n) : pc_ct b m ≤ pc_ct b n := by
  induction n with
  | zero => rw [Nat.le_zero.mp h]; exact Nat.le_refl _
  | succ n ih =>
    rcases Nat.lt_or_eq_of_le h with h | rfl
    · have := ih (by omega)
      show pc_ct b m ≤ pc_ct b n + (b.testBit n).toNat
      omega
    · exact Nat.le_refl _
theorem pc_lt {b q n : Nat} (h : b.testBit q = true) (hq : q < n) : pc_ct b q < pc_ct b n := by
  have h1 := pc_mono b (m := q + 1) (n := n) hq
  have h2 : pc_ct b (q + 1) = pc_ct b q + 1 := by
    show pc_ct b q + (b.testBit q).toNat = _
    rw [h]; rfl
  omega
set_option maxRecDepth 100000 in
set_option maxHeartbeats 4000000 in
theorem ct_JI_bitCount (l : Launch) (D : va_G) (dA : Nat → ClassId) (ws : va_W) {b : Nat} (hb : b < 65536) : gx_Ct l D dA yy_JI_bitCount cc_JI_bitCount 1 (some .int) 0 0 0 [.int (nI b)] ws (fun v w => v = some (.int (nI (pc_ct b 16))) ∧ w = ws) := by
  refine gx_of (by decide) (Nat.le_of_ble_eq_true rfl) (fun K C _ _ => ?_)
  have hb1 : bc_1 b ≤ b := Nat.sub_le _ _
  have hb2 : bc_2 (bc_1 b) ≤ 858993459 + 858993459 := Nat.add_le_add Nat.and_le_right Nat.and_le_right
  have hb3 : bc_3 (bc_2 (bc_1 b)) ≤ 252645135 := Nat.and_le_right
  refine gx_iload_n C 0 dd_JI_bitCount_0 (kk := ?_)
  refine gx_iload_n C 0 dd_JI_bitCount_1 (kk := ?_)
  refine gx_iconst (v := nI 1) C dd_JI_bitCount_2 (kk := ?_)
  refine gx_iushr C dd_JI_bitCount_3 (w := nI (b / 2 ^ 1)) (hv := pk_ushrN (by omega) _ 1 (by decide)) (kk := ?_)
  refine gx_ldcw C dd_JI_bitCount_4 kc_JI_265 (kk := ?_)
  refine gx_iand C dd_JI_bitCount_7 (kk := ?_)
  refine gx_topi _ (bs_and _ 1431655765) ?_
  refine gx_isub C dd_JI_bitCount_8 (kk := ?_)
  refine gx_topi (nI (bc_1 b)) (pk_sub (Nat.le_trans Nat.and_le_left (Nat.div_le_self _ _))) ?_
  refine gx_istore_n C _ dd_JI_bitCount_9 (kk := ?_)
  refine gx_iload_n C 0 dd_JI_bitCount_10 (kk := ?_)
  refine gx_ldcw C dd_JI_bitCount_11 kc_JI_266 (kk := ?_)
  refine gx_iand C dd_JI_bitCount_14 (kk := ?_)
  refine gx_topi _ (bs_and _ 858993459) ?_
  refine gx_iload_n C 0 dd_JI_bitCount_15 (kk := ?_)
  refine gx_iconst (v := nI 2) C dd_JI_bitCount_16 (kk := ?_)
  refine gx_iushr C dd_JI_bitCount_17 (w := nI (bc_1 b / 2 ^ 2)) (hv := pk_ushrN (by omega) _ 2 (by decide)) (kk := ?_)
  refine gx_ldcw C dd_JI_bitCount_18 kc_JI_266 (kk := ?_)
  refine gx_iand C dd_JI_bitCount_21 (kk := ?_)
  refine gx_topi _ (bs_and _ 858993459) ?_
  refine gx_iadd C dd_JI_bitCount_22 (kk := ?_)
  refine gx_topi (nI (bc_2 (bc_1 b))) (nI_add _ _) ?_
  refine gx_istore_n C _ dd_JI_bitCount_23 (kk := ?_)
  refine gx_iload_n C 0 dd_JI_bitCount_24 (kk := ?_)
  refine gx_iload_n C 0 dd_JI_bitCount_25 (kk := ?_)
  refine gx_iconst (v := nI 4) C dd_JI_bitCount_26 (kk := ?_)
  refine gx_iushr C dd_JI_bitCount_27 (w := nI (bc_2 (bc_1 b) / 2 ^ 4)) (hv := pk_ushrN (by omega) _ 4 (by decide)) (kk := ?_)
  refine gx_iadd C dd_JI_bitCount_28 (kk := ?_)
  refine gx_topi _ (nI_add _ _) ?_
  refine gx_ldcw C dd_JI_bitCount_29 kc_JI_267 (kk := ?_)
  refine gx_iand C dd_JI_bitCount_32 (kk := ?_)
  refine gx_topi (nI (bc_3 (bc_2 (bc_1 b)))) (bs_and _ 252645135) ?_
  refine gx_istore_n C _ dd_JI_bitCount_33 (kk := ?_)
  refine gx_iload_n C 0 dd_JI_bitCount_34 (kk := ?_)
  refine gx_iload_n C 0 dd_JI_bitCount_35 (kk := ?_)
  refine gx_bipush (v := nI 8) C dd_JI_bitCount_36 (kk := ?_)
  refine gx_iushr C dd_JI_bitCount_38 (w := nI (bc_3 (bc_2 (bc_1 b)) / 2 ^ 8)) (hv := pk_ushrN (by omega) _ 8 (by decide)) (kk := ?_)
  refine gx_iadd C dd_JI_bitCount_39 (kk := ?_)
  refine gx_topi _ (nI_add _ _) ?_
  refine gx_istore_n C _ dd_JI_bitCount_40 (kk := ?_)
  refine gx_iload_n C 0 dd_JI_bitCount_41 (kk := ?_)
  refine gx_iload_n C 0 dd_JI_bitCount_42 (kk := ?_)
  refine gx_bipush (v := nI 16) C dd_JI_bitCount_43 (kk := ?_)
  refine gx_iushr C dd_JI_bitCount_45 (w := nI ((bc_3 (bc_2 (bc_1 b)) + bc_3 (bc_2 (bc_1 b)) / 2 ^ 8) / 2 ^ 16)) (hv := pk_ushrN (by omega) _ 16 (by decide)) (kk := ?_)
  refine gx_iadd C dd_JI_bitCount_46 (kk := ?_)
  refine gx_topi _ (nI_add _ _) ?_
  refine gx_istore_n C _ dd_JI_bitCount_47 (kk := ?_)
  refine gx_iload_n C 0 dd_JI_bitCount_48 (kk := ?_)
  refine gx_bipush (v := nI 63) C dd_JI_bitCount_49 (kk := ?_)
  refine gx_iand C dd_JI_bitCount_51 (kk := ?_)
  refine gx_topi _ (bs_and _ 63) ?_
  refine gx_iret C dd_JI_bitCount_52 ?_
  refine ⟨?_, rfl⟩
  rw [← bc_eq hb]
  rfl
set_option maxRecDepth 100000 in
set_option maxHeartbeats 4000000 in
theorem ct_WM_rankIn (l : Launch) (D : va_G) (dA : Nat → ClassId) (ws : va_W) {b q : Nat} (hb : b < 65536) (hq : q ≤ 16) : gx_Ct l D dA yy_WM_rankIn cc_WM_rankIn 2 (some .int) 1 0 0 [.int (nI b), .int (nI q)] ws (fun v w => v = some (.int (nI (pc_ct b q))) ∧ w = ws) := by
  refine gx_of (by decide) (Nat.le_of_ble_eq_true rfl) (fun K C _ _ => ?_)
  refine gx_iload_n C 0 dd_WM_rankIn_0 (kk := ?_)
  refine gx_iconst (v := nI 1) C dd_WM_rankIn_1 (kk := ?_)
  refine gx_iload_n C 1 dd_WM_rankIn_2 (kk := ?_)
  refine gx_ishl C dd_WM_rankIn_3 (kk := ?_)
  refine gx_topi _ (bs_shl (by omega)) ?_
  refine gx_iconst (v := nI 1) C dd_WM_rankIn_4 (kk := ?_)
  refine gx_isub C dd_WM_rankIn_5 (kk := ?_)
  refine gx_topi _ (pk_sub (Nat.pos_of_ne_zero (by simp))) ?_
  refine gx_iand C dd_WM_rankIn_6 (kk := ?_)
  refine gx_topi (nI (b % 2 ^ q)) (by rw [bs_and, Nat.and_two_pow_sub_one_eq_mod]) ?_
  refine gx_callS C (ct_JI_bitCount (gx_l K) D dA _ (b := b % 2 ^ q) (Nat.lt_of_le_of_lt (Nat.mod_le _ _) hb)) me_JI_bitCount ml_WM_229 ms_JI_bitCount dd_WM_rankIn_7 (kk := fun v w hq => ?_)
  obtain ⟨rfl, rfl⟩ := hq
  refine gx_iret C dd_WM_rankIn_10 ?_
  rw [pc_mod, show min q 16 = q by omega]
  exact ⟨rfl, rfl⟩
/-! NUMBERS THAT TELL A PLACE -/
def ix (n : Nat) (x : Int32) : Option Nat := if x < 0 ∨ nI n ≤ x then none else some x.toNatClampNeg
theorem ix_some {n j : Nat} (h : j < n) (hn : n < 2 ^ 31) : ix n (nI j) = some j := by
  unfold ix
  rw [if_neg (fun e => e.elim (nI_pos (by omega)) (nI_ge h hn)), nI_clamp (by omega)]
theorem ix_of {n j : Nat} {x : Int32} (hn : n < 2 ^ 31) (h : ix n x = some j) : j < n ∧ x = nI j := by
  rcases pk_ix x hn with h1 | h1 | ⟨i, hi, rfl⟩
  · unfold ix at h; rw [if_pos (Or.inl h1)] at h; cases h
  · unfold ix at h; rw [if_pos (Or.inr h1)] at h; cases h
  · rw [ix_some hi hn] at h
    cases h
    exact ⟨hi, rfl⟩
theorem ix_none {n : Nat} {x : Int32} (h : ix n x = none) : x < 0 ∨ nI n ≤ x := by
  unfold ix at h
  split at h
  · assumption
  · cases h
theorem ix_b {n : Nat} {x : Int32} : (if x < 0 ∨ nI n ≤ x then nI 0 else nI 1) = nI (ix n x).isSome.toNat := by
  unfold ix
  split <;> rfl
/-- a weight that is an int -/
theorem ix_w (x : Int32) : (if x.toInt64 < lN 0 ∨ 1000000000 < x.toInt64 then nI 0 else nI 1) = nI (ix 1000000001 x).isSome.toNat := by
  rcases pk_ix x (n := 1000000001) (by decide) with h1 | h1 | ⟨i, hi, rfl⟩
  · rw [if_pos (Or.inl (by rw [Int64.lt_iff_toInt_lt, Int32.toInt_toInt64]; exact Int32.lt_iff_toInt_lt.mp h1))]
    unfold ix
    rw [if_pos (Or.inl h1)]
    rfl
  · rw [if_pos (Or.inr (by
      have h2 := Int32.le_iff_toInt_le.mp h1
      rw [nI_toInt (by decide)] at h2
      rw [Int64.lt_iff_toInt_lt, Int32.toInt_toInt64, show (1000000000 : Int64).toInt = 1000000000 by decide]
      omega))]
    unfold ix
    rw [if_pos (Or.inr h1)]
    rfl
  · rw [nI_l (by omega), ix_some hi (by decide), if_neg (by
      rw [pk_lLT (by omega) (by decide), show (1000000000 : Int64) = lN 1000000000 from rfl, pk_lLT (by decide) (by omega)]
      omega)]
    rfl
/-! THE STATE OF THE CLASS: four machines, the best path, the text -/
abbrev sg : Type := (Nat → am_T) × List (Nat × Nat) × List Nat
abbrev wm_c (ad : Nat → Nat) (pm : Nat) : va_E := .inr (10, [.ref (ad 1), .ref (ad 22), .ref (ad 24), .ref (ad 26), .ref (ad 29), .ref (ad 31), .ref (ad 37), .ref (ad 40), .ref (ad 42), .ref (ad (2 + 4 * pm))])
abbrev wm_f (dA : Nat → ClassId) (f : Nat → Option Nat) : va_E := .inl (dA 4, 4, .inr (.inr (.inr (.inr f))))
def cs_pi (π : Nat → Nat) : Prop := (∀ i, i < 5 → π i < 5) ∧ ∀ i j, i < 5 → j < 5 → π i = π j → i = j
def cs_s (ad : Nat → Nat) (π : Nat → Nat) (f : Nat → Option Nat) : Prop := ∀ i, i < 4 → f i = some (ad (2 + 4 * π i))
def cs_w (dA : Nat → ClassId) (ad : Nat → Nat) (r : Nat → va_E) : Prop := (∃ x1 x2 x3 tri, r 22 = .inr (2, [x1, x2, x3, .ref (ad 23)]) ∧ r 23 = .inl (dA 0, 16, .inl tri)) ∧ (∃ f, r 24 = .inr (0, [.ref (ad 25)]) ∧ r 25 = .inl (dA 1, 16, .inr (.inl f))) ∧ (∃ x1 x2 fr fn, r 26 = .inr (3, [x1, x2, .ref (ad 27), .ref (ad 28)]) ∧ r 27 = .inl (dA 1, 256, .inr (.inl fr)) ∧ r 28 = .inl (dA 1, 16, .inr (.inl fn))) ∧ (∃ f, r 29 = .inr (5, [.ref (ad 30)]) ∧ r 30 = .inl (dA 1, 16, .inr (.inl f))) ∧ we_ok dA ad r ∧ ∃ t0 m0 x0 y0, r 42 = .inr (6, [t0, m0, .int x0, .long y0])
/-- cells 0, 1, the machines, the rest; π says which machine is which slot's, π 4 the one that is built over -/
def cs (dA : Nat → ClassId) (ad : Nat → Nat) (mm : Nat → gm_V) (r : Nat → va_E) (σ : sg) : Prop := ∃ π f, cs_pi π ∧ r 0 = wm_c ad (π 4) ∧ r 1 = wm_f dA f ∧ cs_s ad π f ∧ (∀ i, i < 4 → gm_is (mm (π i)) (σ.1 i)) ∧ cs_w dA ad r ∧ bp_at dA ad r σ.2.1 ∧ te_at dA ad r σ.2.2
def am_ok (a : am_T) : Prop := am_b 1000000001 a ∧ am_so (am_ar a) ∧ (∀ x ∈ am_ar a, x.1 / 1024 < am_n a ∧ x.1 % 16 < am_n a) ∧ (∀ x, am_st a = some x → x.1 < am_n a) ∧ ∀ q, am_n a ≤ q → am_en a q = none
def sg_ok (σ : sg) : Prop := (∀ i, i < 4 → am_ok (σ.1 i)) ∧ σ.2.1.length ≤ 16 ∧ (∀ x ∈ σ.2.1, x.1 < 16384 ∧ x.2 < 1000000001)
section GS
variable {K : gx_K} {D : va_G} {dA : Nat → ClassId} {y : MethodName} {cc : ByteArray} {nL : Nat} {ret : Option FieldType} {d k n pc : Nat} {lv : List (Nat × Value)} {st : List Value} {Z : State → Prop} {ad : Nat → Nat} {mm : Nat → gm_V} {r : Nat → va_E} {f : Nat → Option Nat} {π : Nat → Nat} {i : Nat}
theorem gz_slot (C : gx_C K D dA y cc nL ret d) (he : r 1 = wm_f dA f) (hf : cs_s ad π f) (hd : decode cc pc = .ok (.aaload, 1)) (hi : i < 4) (kk : gx_G K D nL k n (pc + 1) lv (.ref (ad (2 + 4 * π i)) :: st) (gx_w ad (gm_h dA ad mm r)) Z) : gx_G K D nL k n pc lv (.int (nI i) :: .ref (ad 1) :: st) (gx_w ad (gm_h dA ad mm r)) Z := gx_aaload C (gm_r he) hd (vp_in_nI hi (by decide)) (by rw [nI_clamp (by omega)]; exact hf i hi) kk
theorem gz_slotput (C : gx_C K D dA y cc nL ret d) {j : Nat} (he : r 1 = wm_f dA f) (hd : decode cc pc = .ok (.aastore, 1)) (hi : i < 4) (hj : j < 5) (kk : ∀ r' : Nat → va_E, r' = va_up r 1 (wm_f dA (va_up f i (some (ad (2 + 4 * j))))) → gx_G K D nL k n (pc + 1) lv st (gx_w ad (gm_h dA ad mm r')) Z) : gx_G K D nL k n pc lv (.ref (ad (2 + 4 * j)) :: .int (nI i) :: .ref (ad 1) :: st) (gx_w ad (gm_h dA ad mm r)) Z := gx_aastore C (gm_r he) (gm_at (j := 0) hj (by decide)) rfl hd (vp_in_nI hi (by decide)) (by rw [gm_upr (by decide), nI_clamp (by omega)]; exact kk _ rfl) (hq2 := by omega)
end GS
def ap_v (x : Nat × Nat) (what : Int32) : Int32 := match ix 5 what with
  | some 0 => nI (x.1 / 1024)
  | some 1 => nI (x.1 % 16)
  | some 2 => nI (x.1 / 128 % 8)
  | some 3 => nI (x.1 / 16 % 8)
  | some 4 => nI x.2
  | _ => -1
theorem ix_out {n : Nat} {x : Int32} (hn : n < 2 ^ 31) (h : ix n x = none) : x.toInt < 0 ∨ (n : Int) ≤ x.toInt := by
  rcases ix_none h with h | h
  · exact Or.inl (Int32.lt_iff_toInt_lt.mp h)
  · have := Int32.le_iff_toInt_le.mp h
    rw [nI_toInt hn] at this
    exact Or.inr this
set_option maxRecDepth 100000 in
set_option maxHeartbeats 4000000 in
theorem ct_WM_arcPart (l : Launch) (D : va_G) (dA : Nat → ClassId) (ws : va_W) {x : Nat × Nat} (hx1 : x.1 < 16384) (what : Int32) : gx_Ct l D dA yy_WM_arcPart cc_WM_arcPart 4 (some .int) 1 0 0 [.int (nI x.1), .long (lN x.2), .int what] ws (fun v w => v = some (.int (ap_v x what)) ∧ w = ws) := by
  refine gx_of (by decide) (Nat.le_of_ble_eq_true rfl) (fun K C _ _ => ?_)
  refine gx_iload_n C 2 dd_WM_arcPart_0 (kk := ?_)
  rcases hx : ix 5 what with _ | j
  · refine gx_tableOut C 59 dd_WM_arcPart_1 (by have := ix_out (by decide) hx; omega) (by decide) ?_
    refine gx_iconst (v := -1) C dd_WM_arcPart_59 (kk := ?_)
    refine gx_iret C dd_WM_arcPart_60 ?_
    exact ⟨by rw [ap_v, hx], rfl⟩
  · obtain ⟨hj, rfl⟩ := ix_of (by decide) hx
    rcases (show j = 0 ∨ j = 1 ∨ j = 2 ∨ j = 3 ∨ j = 4 by omega) with rfl | rfl | rfl | rfl | rfl
    · refine gx_tableIn C 36 dd_WM_arcPart_1 (off := 35) (by decide) (by decide) (by decide) (by decide) ?_
      refine gx_iload_n C 0 dd_WM_arcPart_36 (kk := ?_)
      refine gx_callS C (ct_WM_fromOf (gx_l K) D dA _ x.1 (by omega)) me_WM_fromOf ml_WM_217 ms_WM_fromOf dd_WM_arcPart_37 (kk := fun v w hq => ?_)
      obtain ⟨rfl, rfl⟩ := hq
      refine gx_iret C dd_WM_arcPart_40 ?_
      exact ⟨by rw [ap_v, hx]; rfl, rfl⟩
    · refine gx_tableIn C 41 dd_WM_arcPart_1 (off := 40) (by decide) (by decide) (by decide) (by decide) ?_
      refine gx_iload_n C 0 dd_WM_arcPart_41 (kk := ?_)
      refine gx_callS C (ct_WM_toOf (gx_l K) D dA _ x.1 (by omega)) me_WM_toOf ml_WM_220 ms_WM_toOf dd_WM_arcPart_42 (kk := fun v w hq => ?_)
      obtain ⟨rfl, rfl⟩ := hq
      refine gx_iret C dd_WM_arcPart_45 ?_
      exact ⟨by rw [ap_v, hx]; rfl, rfl⟩
    · refine gx_tableIn C 46 dd_WM_arcPart_1 (off := 45) (by decide) (by decide) (by decide) (by decide) ?_
      refine gx_iload_n C 0 dd_WM_arcPart_46 (kk := ?_)
      refine gx_callS C (ct_WM_inOf (gx_l K) D dA _ x.1 (by omega)) me_WM_inOf ml_WM_244 ms_WM_inOf dd_WM_arcPart_47 (kk := fun v w hq => ?_)
      obtain ⟨rfl, rfl⟩ := hq
      refine gx_iret C dd_WM_arcPart_50 ?_
      exact ⟨by rw [ap_v, hx]; rfl, rfl⟩
    · refine gx_tableIn C 51 dd_WM_arcPart_1 (off := 50) (by decide) (by decide) (by decide) (by decide) ?_
      refine gx_iload_n C 0 dd_WM_arcPart_51 (kk := ?_)
      refine gx_callS C (ct_WM_outOf (gx_l K) D dA _ x.1 (by omega)) me_WM_outOf ml_WM_247 ms_WM_outOf dd_WM_arcPart_52 (kk := fun v w hq => ?_)
      obtain ⟨rfl, rfl⟩ := hq
      refine gx_iret C dd_WM_arcPart_55 ?_
      exact ⟨by rw [ap_v, hx]; rfl, rfl⟩
    · refine gx_tableIn C 56 dd_WM_arcPart_1 (off := 55) (by decide) (by decide) (by decide) (by decide) ?_
      refine gx_lload_n C 1 dd_WM_arcPart_56 (kk := ?_)
      refine gx_l2i C dd_WM_arcPart_57 (w := nI x.2) (hv := lN_i _) (kk := ?_)
      refine gx_iret C dd_WM_arcPart_58 ?_
      exact ⟨by rw [ap_v, hx]; rfl, rfl⟩
def o_is (σ : sg) (s q : Int32) : Option (Nat × Nat) := match ix 4 s with
  | none => none
  | some i => match ix (am_n (σ.1 i)) q with
    | none => none
    | some j => some (i, j)
theorem o_is_of {σ : sg} {s q : Int32} {x : Nat × Nat} (hσ : sg_ok σ) (h : o_is σ s q = some x) : x.1 < 4 ∧ s = nI x.1 ∧ x.2 < am_n (σ.1 x.1) ∧ q = nI x.2 := by
  unfold o_is at h
  rcases h1 : ix 4 s with _ | i
  · rw [h1] at h; cases h
  · rw [h1] at h
    obtain ⟨hi, rfl⟩ := ix_of (by decide) h1
    have h : (match ix (am_n (σ.1 i)) q with | none => none | some j => some (i, j)) = some x := h
    rcases h2 : ix (am_n (σ.1 i)) q with _ | j
    · rw [h2] at h; cases h
    · rw [h2] at h
      cases h
      obtain ⟨hj, rfl⟩ := ix_of (by have := (hσ.1 i hi).1.1; omega) h2
      exact ⟨hi, rfl, hj, rfl⟩
set_option maxRecDepth 100000 in
set_option maxHeartbeats 4000000 in
theorem ct_WM_isState (l : Launch) (D : va_G) (dA : Nat → ClassId) (ad : Nat → Nat) (mm : Nat → gm_V) (r : Nat → va_E) {σ : sg} (hc : cs dA ad mm r σ) (hσ : sg_ok σ) (s q : Int32) : gx_Ct l D dA yy_WM_isState cc_WM_isState 3 (some .boolean) 1 0 0 [.ref (ad 0), .int s, .int q] (gx_w ad (gm_h dA ad mm r)) (fun v w => v = some (.int (nI (o_is σ s q).isSome.toNat)) ∧ w = (gx_w ad (gm_h dA ad mm r))) := by
  refine gx_of (by decide) (Nat.le_of_ble_eq_true rfl) (fun K C _ _ => ?_)
  obtain ⟨π, f, hπ, hc0, hc1, hf, hM, hR, hP, hX⟩ := hc
  refine gx_iload_n C 1 dd_WM_isState_0 (kk := ?_)
  refine gx_callS C (ct_WM_isSlot (gx_l K) D dA _ s) me_WM_isSlot ml_WM_76 ms_WM_isSlot dd_WM_isState_1 (kk := fun v w hq => ?_)
  obtain ⟨rfl, rfl⟩ := hq
  refine gx_topi _ ix_b ?_
  rcases hi : ix 4 s with _ | i
  · refine gx_if_eq C 28 dd_WM_isState_4 (fun h4 => ?_) (fun h4 => absurd rfl h4)
    refine gx_iconst (v := nI 0) C dd_WM_isState_28 (kk := ?_)
    refine gx_zret C dd_WM_isState_29 (by first | rfl | exact fb_nar) ?_
    rw [o_is, hi]
    exact ⟨rfl, rfl⟩
  · obtain ⟨hi4, rfl⟩ := ix_of (by decide) hi
    refine gx_if_eq C 28 dd_WM_isState_4 (fun h4 => absurd (show true = false from fb_0.mp h4) (by decide)) (fun h4 => ?_)
    refine gx_iload_n C 2 dd_WM_isState_7 (kk := ?_)
    refine gx_if_lt C 28 dd_WM_isState_8 (fun h8 => ?_) (fun h8 => ?_)
    · refine gx_iconst (v := nI 0) C dd_WM_isState_28 (kk := ?_)
      refine gx_zret C dd_WM_isState_29 (by first | rfl | exact fb_nar) ?_
      rw [o_is, hi]
      show _ = some (Value.int (nI (match ix (am_n (σ.1 i)) q with | none => none | some j => some (i, j)).isSome.toNat)) ∧ _
      rw [show ix (am_n (σ.1 i)) q = none from if_pos (Or.inl h8)]
      exact ⟨rfl, rfl⟩
    · refine gx_iload_n C 2 dd_WM_isState_11 (kk := ?_)
      refine gx_aload_n C 0 dd_WM_isState_12 (kk := ?_)
      refine gx_get C fd_WM_11 (gm_r hc0) dd_WM_isState_13 (kk := ?_)
      refine gx_iload_n C 1 dd_WM_isState_16 (kk := ?_)
      refine gz_slot C hc1 hf dd_WM_isState_17 hi4 (kk := ?_)
      refine gm_get C fd_WM_120 (hπ.1 i (by omega)) dd_WM_isState_18 (kk := ?_)
      refine gx_topi _ (hM i hi4).1 ?_
      refine gx_icmp_ge C 28 dd_WM_isState_21 (fun h21 => ?_) (fun h21 => ?_)
      · refine gx_iconst (v := nI 0) C dd_WM_isState_28 (kk := ?_)
        refine gx_zret C dd_WM_isState_29 (by first | rfl | exact fb_nar) ?_
        rw [o_is, hi]
        show _ = some (Value.int (nI (match ix (am_n (σ.1 i)) q with | none => none | some j => some (i, j)).isSome.toNat)) ∧ _
        rw [show ix (am_n (σ.1 i)) q = none from if_pos (Or.inr h21)]
        exact ⟨rfl, rfl⟩
      · refine gx_iconst (v := nI 1) C dd_WM_isState_24 (kk := ?_)
        refine gx_goto C 29 dd_WM_isState_25 (kk := ?_)
        refine gx_zret C dd_WM_isState_29 (by first | rfl | exact fb_nar) ?_
        rw [o_is, hi]
        show _ = some (Value.int (nI (match ix (am_n (σ.1 i)) q with | none => none | some j => some (i, j)).isSome.toNat)) ∧ _
        rw [show ix (am_n (σ.1 i)) q = some q.toNatClampNeg from if_neg (fun e => e.elim h8 h21)]
        exact ⟨rfl, rfl⟩
theorem lt_sm : ∀ k, k < 8 → (((nI (8 * k)).toInt64 &&& 63).toBitVec.smod 64).toNat = 8 * k := by decide +kernel
theorem lt_shr (x : Int64) {k : Nat} (hk : k < 8) : (x >>> ((nI (8 * k)).toInt64 &&& 63)) &&& 255 = lN (x.toBitVec.toNat / 2 ^ (8 * k) % 256) := by
  apply Int64.toBitVec_inj.mp
  rw [Int64.toBitVec_and, Int64.toBitVec_shiftRight]
  apply BitVec.eq_of_getLsbD_eq
  intro i hi
  rw [BitVec.getLsbD_and]
  unfold BitVec.sshiftRight'
  rw [lt_sm k hk, BitVec.getLsbD_sshiftRight]
  show _ = (BitVec.ofNat 64 (x.toBitVec.toNat / 2 ^ (8 * k) % 256)).getLsbD i
  have h255 : (255 : Int64).toBitVec.getLsbD i = decide (i < 8) := by
    show (BitVec.ofNat 64 255).getLsbD i = _
    rw [BitVec.getLsbD_ofNat, show (255 : Nat) = 2 ^ 8 - 1 by decide, Nat.testBit_two_pow_sub_one, decide_eq_true hi, Bool.true_and]
  rw [h255, BitVec.getLsbD_ofNat, decide_eq_true hi, Bool.true_and, show (256 : Nat) = 2 ^ 8 by decide, Nat.testBit_mod_two_pow, Nat.testBit_div_two_pow]
  by_cases h8 : i < 8
  · rw [decide_eq_true h8, decide_eq_false (show ¬ 64 ≤ i by omega), if_pos (show 8 * k + i < 64 by omega)]
    simp only [Bool.not_false, Bool.true_and, Bool.and_true]
    rw [Nat.add_comm]; rfl
  · rw [decide_eq_false h8]; simp
def lt_b (x : Int64) (k : Nat) : Nat := x.toBitVec.toNat / 2 ^ (8 * k) % 256
def lt_k (x : Int64) (k : Nat) : Bool := decide (32 ≤ lt_b x k) && decide (lt_b x k ≤ 126)
def lt_ok (x : Int64) : Nat → Bool
  | 0 => true
  | n + 1 => lt_ok x n && lt_k x n
theorem lt_ok_f {x : Int64} {i : Nat} (h : lt_k x i = false) : ∀ n, i < n → lt_ok x n = false
  | 0, hn => absurd hn (Nat.not_lt_zero _)
  | n + 1, hn => by
    unfold lt_ok
    rcases Nat.lt_succ_iff_lt_or_eq.mp hn with hn | rfl
    · rw [lt_ok_f h n hn]; rfl
    · rw [h, Bool.and_false]
theorem lt_b_lt (x : Int64) (k : Nat) : lt_b x k < 256 := Nat.mod_lt _ (by decide)

set_option maxRecDepth 100000 in
set_option maxHeartbeats 4000000 in
theorem ct_WM_areLetters (l : Launch) (D : va_G) (dA : Nat → ClassId) (ws : va_W) (x : Int64) {n : Nat} (hn : n ≤ 8) : gx_Ct l D dA yy_WM_areLetters cc_WM_areLetters 6 (some .boolean) 0 0 0 [.long x, .int (nI n)] ws (fun v w => v = some (.int (nI (lt_ok x n).toNat)) ∧ w = ws) := by
  refine gx_of (by decide) (Nat.le_of_ble_eq_true rfl) (fun K C _ _ => ?_)
  have loop : ∀ m i, i + m = n → lt_ok x i = true → gx_G K D 6 0 0 2 [(3, .int (nI i)), (0, .long x), (2, .int (nI n))] [] ws (gx_Z K D dA 0 0 (fun v w => v = some (.int (nI (lt_ok x n).toNat)) ∧ w = ws)) := by
    intro m
    induction m with
    | zero =>
      intro i hi hok
      refine gx_iload_n C 0 dd_WM_areLetters_2 (kk := ?_)
      refine gx_iload_n C 2 dd_WM_areLetters_3 (kk := ?_)
      refine gx_icmp_ge C 45 dd_WM_areLetters_4 (fun h4 => ?_) (fun h4 => absurd (nI_le (a := n) (b := i) (by omega) (by omega)) h4)
      refine gx_iconst (v := nI 1) C dd_WM_areLetters_45 (kk := ?_)
      refine gx_zret C dd_WM_areLetters_46 (by first | rfl | exact fb_nar) ?_
      rw [show i = n by omega] at hok
      rw [hok]
      exact ⟨rfl, rfl⟩
    | succ m ih =>
      intro i hi hok
      have hlb := lt_b_lt x i
      refine gx_iload_n C 0 dd_WM_areLetters_2 (kk := ?_)
      refine gx_iload_n C 2 dd_WM_areLetters_3 (kk := ?_)
      refine gx_icmp_ge C 45 dd_WM_areLetters_4 (fun h4 => absurd h4 (nI_ge (by omega) (by omega))) (fun h4 => ?_)
      refine gx_lload_n C 1 dd_WM_areLetters_7 (kk := ?_)
      refine gx_bipush (v := nI 8) C dd_WM_areLetters_8 (kk := ?_)
      refine gx_iload_n C 0 dd_WM_areLetters_10 (kk := ?_)
      refine gx_imul C dd_WM_areLetters_11 (kk := ?_)
      refine gx_topi _ (pk_mul 8 i) ?_
      refine gx_lshr C dd_WM_areLetters_12 (w := x >>> ((nI (8 * i)).toInt64 &&& 63)) (hv := rfl) (kk := ?_)
      refine gx_ldc2 C dd_WM_areLetters_13 kc_WM_199 (kk := ?_)
      refine gx_land C dd_WM_areLetters_16 (kk := ?_)
      refine gx_topl (lN (lt_b x i)) (lt_shr x (by omega)) ?_
      refine gx_lstore C _ dd_WM_areLetters_17 (kk := ?_)
      refine gx_lload C 0 dd_WM_areLetters_19 (kk := ?_)
      refine gx_ldc2 C dd_WM_areLetters_21 kc_WM_210 (kk := ?_)
      refine gx_lcmp C dd_WM_areLetters_24 (kk := ?_)
      refine gx_if_lt C 37 dd_WM_areLetters_25 (fun h25 => ?_) (fun h25 => ?_)
      · refine gx_iconst (v := nI 0) C dd_WM_areLetters_37 (kk := ?_)
        refine gx_zret C dd_WM_areLetters_38 (by first | rfl | exact fb_nar) ?_
        have hbad : lt_k x i = false := by
          unfold lt_k
          rw [lc_lt, show (32 : Int64) = lN 32 from rfl, pk_lLT (by omega) (by decide)] at h25
          rw [decide_eq_false (show ¬ 32 ≤ lt_b x i by omega)]
          rfl
        rw [lt_ok_f hbad n (by omega)]
        exact ⟨rfl, rfl⟩
      · refine gx_lload C 0 dd_WM_areLetters_28 (kk := ?_)
        refine gx_ldc2 C dd_WM_areLetters_30 kc_WM_212 (kk := ?_)
        refine gx_lcmp C dd_WM_areLetters_33 (kk := ?_)
        refine gx_if_le C 39 dd_WM_areLetters_34 (fun h34 => ?_) (fun h34 => ?_)
        · have hgood : lt_ok x (i + 1) = true := by
            rw [lc_lt, show (32 : Int64) = lN 32 from rfl, pk_lLT (by omega) (by decide)] at h25
            rw [lc_le, show (126 : Int64) = lN 126 from rfl, pk_lLE (by omega) (by decide)] at h34
            show (lt_ok x i && (decide (32 ≤ lt_b x i) && decide (lt_b x i ≤ 126))) = true
            rw [hok, decide_eq_true (show 32 ≤ lt_b x i by omega), decide_eq_true (show lt_b x i ≤ 126 by omega)]
            rfl
          refine gx_iinc C 1 (nI (i + 1)) _ dd_WM_areLetters_39 (nI_1 i) (kk := ?_)
          refine gx_goto C 2 dd_WM_areLetters_42 (kk := ?_)
          refine gx_loc [0, 2, 3] ?_
          exact ih (i + 1) (by omega) hgood
        · refine gx_iconst (v := nI 0) C dd_WM_areLetters_37 (kk := ?_)
          refine gx_zret C dd_WM_areLetters_38 (by first | rfl | exact fb_nar) ?_
          have hbad : lt_k x i = false := by
            unfold lt_k
            rw [lc_le, show (126 : Int64) = lN 126 from rfl, pk_lLE (by omega) (by decide)] at h34
            rw [decide_eq_false (show ¬ lt_b x i ≤ 126 by omega), Bool.and_false]
          rw [lt_ok_f hbad n (by omega)]
          exact ⟨rfl, rfl⟩
  refine gx_iconst (v := nI 0) C dd_WM_areLetters_0 (kk := ?_)
  refine gx_istore_n C _ dd_WM_areLetters_1 (kk := ?_)
  exact loop n 0 (by omega) rfl
def cs_sw (π : Nat → Nat) (c : Nat) : Nat → Nat := fun i => if i = c then π 4 else if i = 4 then π c else π i
theorem cs_sw_pi {π : Nat → Nat} {c : Nat} (h : cs_pi π) (hc : c < 4) : cs_pi (cs_sw π c) := by
  refine ⟨fun i hi => ?_, fun i j hi hj he => ?_⟩
  · unfold cs_sw
    split
    · exact h.1 4 (by decide)
    · split
      · exact h.1 c (by omega)
      · exact h.1 i hi
  · unfold cs_sw at he
    by_cases h1 : i = c
    · by_cases h2 : j = c
      · omega
      · rw [if_pos h1, if_neg h2] at he
        by_cases h3 : j = 4
        · rw [if_pos h3] at he
          have := h.2 4 c (by decide) (by omega) he
          omega
        · rw [if_neg h3] at he
          have := h.2 4 j (by decide) hj he
          omega
    · rw [if_neg h1] at he
      by_cases h2 : j = c
      · rw [if_pos h2] at he
        by_cases h3 : i = 4
        · rw [if_pos h3] at he
          have := h.2 c 4 (by omega) (by decide) he
          omega
        · rw [if_neg h3] at he
          have := h.2 i 4 hi (by decide) he
          omega
      · rw [if_neg h2] at he
        by_cases h3 : i = 4
        · by_cases h4 : j = 4
          · omega
          · rw [if_pos h3, if_neg h4] at he
            have := h.2 c j (by omega) hj he
            omega
        · rw [if_neg h3] at he
          by_cases h4 : j = 4
          · rw [if_pos h4] at he
            have := h.2 i c hi (by omega) he
            omega
          · rw [if_neg h4] at he
            exact h.2 i j hi hj he
theorem cs_sw_s {ad : Nat → Nat} {π : Nat → Nat} {f : Nat → Option Nat} {c : Nat} (h : cs_s ad π f) : cs_s ad (cs_sw π c) (va_up f c (some (ad (2 + 4 * π 4)))) := by
  intro i hi
  by_cases h1 : i = c
  · rw [h1, gm_us]
    unfold cs_sw
    rw [if_pos rfl]
  · rw [gm_un h1, h i hi]
    unfold cs_sw
    rw [if_neg h1, if_neg (by omega)]
theorem cs_sw_4 {π : Nat → Nat} {c : Nat} (hc : c < 4) : cs_sw π c 4 = π c := by
  unfold cs_sw
  rw [if_neg (by omega), if_pos rfl]
set_option maxRecDepth 100000 in
set_option maxHeartbeats 4000000 in
theorem ct_WM_take (l : Launch) (D : va_G) (dA : Nat → ClassId) (ad : Nat → Nat) (mm : Nat → gm_V) (r : Nat → va_E) {π : Nat → Nat} {f : Nat → Option Nat} {β : Bool} {b : am_T} {B c : Nat} (hπ : cs_pi π) (hc0 : r 0 = wm_c ad (π 4)) (hc1 : r 1 = wm_f dA f) (hf : cs_s ad π f) (hb : β = true → gm_is (mm (π 4)) b ∧ am_b B b) (hB : B ≤ 2 ^ 62) (hc4 : c < 4) : gx_Ct l D dA yy_WM_take cc_WM_take 4 (some .boolean) 1 0 0 [.ref (ad 0), .int (nI β.toNat), .int (nI c)] (gx_w ad (gm_h dA ad mm r)) (fun v w => (v = some (.int (nI 1)) ∧ β = true ∧ am_fit b = true ∧ ∃ r2 f2, w = gx_w ad (gm_h dA ad mm r2) ∧ r2 0 = wm_c ad (cs_sw π c 4) ∧ r2 1 = wm_f dA f2 ∧ cs_s ad (cs_sw π c) f2 ∧ ∀ k, k ≠ 0 → k ≠ 1 → r2 k = r k) ∨ (v = some (.int (nI 0)) ∧ (β = false ∨ am_fit b = false) ∧ w = (gx_w ad (gm_h dA ad mm r)))) := by
  refine gx_of (by decide) (Nat.le_of_ble_eq_true rfl) (fun K C _ _ => ?_)
  refine gx_iload_n C 1 dd_WM_take_0 (kk := ?_)
  rcases β with _ | _
  · refine gx_if_eq C 14 dd_WM_take_1 (fun h1 => ?_) (fun h1 => absurd rfl h1)
    refine gx_iconst (v := nI 0) C dd_WM_take_14 (kk := ?_)
    refine gx_zret C dd_WM_take_15 (by first | rfl | exact fb_nar) ?_
    exact Or.inr ⟨rfl, Or.inl rfl, rfl⟩
  · refine gx_if_eq C 14 dd_WM_take_1 (fun h1 => absurd h1 (by decide)) (fun h1 => ?_)
    refine gx_aload_n C 0 dd_WM_take_4 (kk := ?_)
    refine gx_get C fd_WM_16 (gm_r hc0) dd_WM_take_5 (kk := ?_)
    refine gx_callV C (ct_Ma_weightsFit (gx_l K) D dA ad mm r (i := π 4) (a := b) (B := B) (hπ.1 4 (by decide)) (hb rfl).1 (hb rfl).2 hB) me_Ma_weightsFit ml_WM_214 mn_Ma_weightsFit _ (gx_w_at (by have := hπ.1 4 (by decide); omega) (gm_at (j := 0) (hπ.1 4 (by decide)) (by decide))) rfl dd_WM_take_8 (kk := fun v w hq => ?_)
    obtain ⟨rfl, rfl⟩ := hq
    rcases hft : am_fit b with _ | _
    · refine gx_if_ne C 16 dd_WM_take_11 (fun h11 => absurd rfl h11) (fun h11 => ?_)
      refine gx_iconst (v := nI 0) C dd_WM_take_14 (kk := ?_)
      refine gx_zret C dd_WM_take_15 (by first | rfl | exact fb_nar) ?_
      exact Or.inr ⟨rfl, Or.inr rfl, rfl⟩
    · refine gx_if_ne C 16 dd_WM_take_11 (fun h11 => ?_) (fun h11 => absurd h11 (by decide))
      refine gx_aload_n C 0 dd_WM_take_16 (kk := ?_)
      refine gx_get C fd_WM_11 (gm_r hc0) dd_WM_take_17 (kk := ?_)
      refine gx_iload_n C 2 dd_WM_take_20 (kk := ?_)
      refine gz_slot C hc1 hf dd_WM_take_21 hc4 (kk := ?_)
      refine gx_astore_n C _ dd_WM_take_22 (kk := ?_)
      refine gx_aload_n C 1 dd_WM_take_23 (kk := ?_)
      refine gx_get C fd_WM_11 (gm_r hc0) dd_WM_take_24 (kk := ?_)
      refine gx_iload_n C 3 dd_WM_take_27 (kk := ?_)
      refine gx_aload_n C 1 dd_WM_take_28 (kk := ?_)
      refine gx_get C fd_WM_16 (gm_r hc0) dd_WM_take_29 (kk := ?_)
      refine gz_slotput C hc1 dd_WM_take_32 hc4 (hπ.1 4 (by decide)) (kk := fun r1 hr1 => ?_)
      have h0b : r1 0 = wm_c ad (π 4) := by rw [hr1, gm_un (by decide)]; exact hc0
      refine gx_aload_n C 1 dd_WM_take_33 (kk := ?_)
      refine gx_aload_n C 0 dd_WM_take_34 (kk := ?_)
      refine gz_put C fw_WM_16 h0b dd_WM_take_35 (kk := fun r2 hr2 => ?_)
      refine gx_iconst (v := nI 1) C dd_WM_take_38 (kk := ?_)
      refine gx_zret C dd_WM_take_39 (by first | rfl | exact fb_nar) ?_
      refine Or.inl ⟨rfl, rfl, rfl, r2, _, rfl, ?_, ?_, cs_sw_s (c := c) hf, fun k a0 a1 => by rw [hr2, gm_un a0, hr1, gm_un a1]⟩
      · rw [hr2, gm_us, cs_sw_4 hc4]; rfl
      · rw [hr2, gm_un (by decide), hr1, gm_us]
