/-! THE STATE: cells by number: 0 the object, 1 its slots, 2 + 4 i .. 5 + 4 i the five machines, 22 .. 42 the rest of the program, 43 .. 64 the reference -/
abbrev gm_ci : Nat := 4
/-- a machine's cells: states, startState, startWeight, endWeights, arcs, keys, weights -/
abbrev gm_V : Type := Int32 × Int32 × Int64 × (Nat → Int64) × Int32 × (Nat → Int32) × (Nat → Int64)
abbrev gm_n (M : gm_V) : Int32 := M.1
abbrev gm_q (M : gm_V) : Int32 := M.2.1
abbrev gm_s (M : gm_V) : Int64 := M.2.2.1
abbrev gm_e (M : gm_V) : Nat → Int64 := M.2.2.2.1
abbrev gm_c (M : gm_V) : Int32 := M.2.2.2.2.1
abbrev gm_k (M : gm_V) : Nat → Int32 := M.2.2.2.2.2.1
abbrev gm_g (M : gm_V) : Nat → Int64 := M.2.2.2.2.2.2
abbrev gm_fs (ad : Nat → Nat) (M : gm_V) (i : Nat) : List Value := [.int (gm_n M), .int (gm_q M), .long (gm_s M), .ref (ad (2 + 4 * i + 1)), .int (gm_c M), .ref (ad (2 + 4 * i + 2)), .ref (ad (2 + 4 * i + 3))]
def gm_cell (dA : Nat → ClassId) (ad : Nat → Nat) (M : gm_V) (i : Nat) : Nat → va_E
  | 0 => .inr (gm_ci, gm_fs ad M i)
  | 1 => .inl (dA 1, 16, .inr (.inl (gm_e M)))
  | 2 => .inl (dA 0, 64, .inl (gm_k M))
  | _ => .inl (dA 1, 64, .inr (.inl (gm_g M)))
def gm_h (dA : Nat → ClassId) (ad : Nat → Nat) (mm : Nat → gm_V) (r : Nat → va_E) : Nat → va_E := fun k => if 2 ≤ k ∧ k < 22 then gm_cell dA ad (mm ((k - 2) / 4)) ((k - 2) / 4) ((k - 2) % 4) else r k
theorem gm_at {dA : Nat → ClassId} {ad : Nat → Nat} {mm : Nat → gm_V} {r : Nat → va_E} {i j : Nat} (hi : i < 5) (hj : j < 4) : gm_h dA ad mm r (2 + 4 * i + j) = gm_cell dA ad (mm i) i j := by
  unfold gm_h
  rw [if_pos (by omega), show (2 + 4 * i + j - 2) / 4 = i by omega, show (2 + 4 * i + j - 2) % 4 = j by omega]
theorem gm_out {dA : Nat → ClassId} {ad : Nat → Nat} {mm : Nat → gm_V} {r : Nat → va_E} {k : Nat} (hk : k < 2 ∨ 22 ≤ k) : gm_h dA ad mm r k = r k := by
  unfold gm_h
  rw [if_neg (by omega)]
theorem gm_up {dA : Nat → ClassId} {ad : Nat → Nat} {mm : Nat → gm_V} {r : Nat → va_E} {i : Nat} (j : Nat) (M : gm_V) (hi : i < 5) (hj : j < 4) (hM : ∀ b, b < 4 → b ≠ j → gm_cell dA ad M i b = gm_cell dA ad (mm i) i b) : va_up (gm_h dA ad mm r) (2 + 4 * i + j) (gm_cell dA ad M i j) = gm_h dA ad (va_up mm i M) r := by
  funext k
  by_cases hk : 2 ≤ k ∧ k < 22
  · obtain ⟨a, b, hb, rfl⟩ : ∃ a b, b < 4 ∧ k = 2 + 4 * a + b := ⟨(k - 2) / 4, (k - 2) % 4, by omega, by omega⟩
    have ha : a < 5 := by omega
    rw [gm_at ha hb]
    by_cases hai : a = i
    · subst hai
      by_cases hbj : b = j
      · subst hbj
        simp [va_up]
      · have h1 : ¬ 2 + 4 * a + b = 2 + 4 * a + j := by omega
        have h2 : va_up (gm_h dA ad mm r) (2 + 4 * a + j) (gm_cell dA ad M a j) (2 + 4 * a + b) = gm_h dA ad mm r (2 + 4 * a + b) := by simp only [va_up, if_neg h1]
        rw [h2, gm_at ha hb, ← hM b hb hbj]
        simp [va_up]
    · have h1 : ¬ 2 + 4 * a + b = 2 + 4 * i + j := by omega
      have h2 : va_up (gm_h dA ad mm r) (2 + 4 * i + j) (gm_cell dA ad M i j) (2 + 4 * a + b) = gm_h dA ad mm r (2 + 4 * a + b) := by simp only [va_up, if_neg h1]
      rw [h2, gm_at ha hb]
      simp [va_up, hai]
  · have h1 : ¬ k = 2 + 4 * i + j := by omega
    have h2 : va_up (gm_h dA ad mm r) (2 + 4 * i + j) (gm_cell dA ad M i j) k = gm_h dA ad mm r k := by simp only [va_up, if_neg h1]
    rw [h2, gm_out (by omega), gm_out (by omega)]
theorem gm_upr {dA : Nat → ClassId} {ad : Nat → Nat} {mm : Nat → gm_V} {r : Nat → va_E} {k : Nat} {e : va_E} (hk : k < 2 ∨ 22 ≤ k) : va_up (gm_h dA ad mm r) k e = gm_h dA ad mm (va_up r k e) := by
  funext j
  by_cases hj : j = k
  · subst hj
    rw [gm_out hk]
    simp [va_up]
  · by_cases hr : 2 ≤ j ∧ j < 22
    · simp only [va_up, if_neg hj]
      unfold gm_h
      rw [if_pos hr, if_pos hr]
    · rw [gm_out (by omega)]
      simp only [va_up, if_neg hj]
      rw [gm_out (by omega)]
theorem gm_uu {α : Type} (f : Nat → α) (k : Nat) (v w : α) : va_up (va_up f k v) k w = va_up f k w := bx_uu f k v w
theorem gm_us {α : Type} {f : Nat → α} {k : Nat} {v : α} : va_up f k v k = v := by simp [va_up]
theorem gm_un {α : Type} {f : Nat → α} {k j : Nat} {v : α} (h : j ≠ k) : va_up f k v j = f j := by simp [va_up, h]
theorem gm_ue {α : Type} (f : Nat → α) (k : Nat) : va_up f k (f k) = f := by
  funext j
  by_cases h : j = k
  · subst h; simp [va_up]
  · simp [va_up, h]
section GM
variable {K : gx_K} {D : va_G} {dA : Nat → ClassId} {y : MethodName} {cc : ByteArray} {nL : Nat} {ret : Option FieldType} {d k n pc : Nat} {lv : List (Nat × Value)} {st : List Value} {Z : State → Prop} {ad : Nat → Nat} {h : Nat → va_E} {mm : Nat → gm_V} {r : Nat → va_E} {i q : Nat}
theorem gx_get (C : gx_C K D dA y cc nL ret d) {idx ci j : Nat} {fs : List Value} {v : Value} (F : gx_fd y.cls idx ci j) (he : h q = .inr (ci, fs)) (hd : decode cc pc = .ok (.getfield idx, 3)) (kk : gx_G K D nL k n (pc + 3) lv (v :: st) (gx_w ad h) Z) (hq : q < 65 := by decide) (hv : fs[j]? = some v := by rfl) : gx_G K D nL k n pc lv (.ref (ad q) :: st) (gx_w ad h) Z := gx_get0 C F q (gx_w_at hq he) hd hv kk
theorem gx_put (C : gx_C K D dA y cc nL ret d) {idx ci j : Nat} {fs : List Value} {v : Value} {ty : FieldType} (F : gx_fw y.cls idx ci j ty) (he : h q = .inr (ci, fs)) (hd : decode cc pc = .ok (.putfield idx, 3)) (kk : gx_G K D nL k n (pc + 3) lv st (gx_w ad (va_up h q (.inr (ci, fs.set j v)))) Z) (hq : q < 65 := by decide) (hn : narrow ty v = v := by rfl) (hf : fits ty v = true := by rfl) (hj : j < fs.length := by decide) : gx_G K D nL k n pc lv (v :: .ref (ad q) :: st) (gx_w ad h) Z := gx_put0 C F q (gx_w_at hq he) hd hn hf hj (by rw [gx_w_set]; exact kk)
theorem gx_iaload (C : gx_C K D dA y cc nL ret d) {n0 : Nat} {f : Nat → Int32} {i0 : Int32} (he : h q = .inl (dA 0, n0, .inl (f))) (hd : decode cc pc = .ok (.iaload, 1)) (hin : vp_in i0 n0) (kk : gx_G K D nL k n (pc + 1) lv (.int (f i0.toNatClampNeg) :: st) (gx_w ad h) Z) (hq : q < 65 := by decide) : gx_G K D nL k n pc lv (.int i0 :: .ref (ad q) :: st) (gx_w ad h) Z := gx_iaload0 C q (gx_w_at hq he) hd hin kk
theorem gx_iastore (C : gx_C K D dA y cc nL ret d) {n0 : Nat} {f : Nat → Int32} {i0 : Int32} {x : Int32} (he : h q = .inl (dA 0, n0, .inl (f))) (hd : decode cc pc = .ok (.iastore, 1)) (hin : vp_in i0 n0) (kk : gx_G K D nL k n (pc + 1) lv st (gx_w ad (va_up h q (.inl (dA 0, n0, .inl (upd f i0.toNatClampNeg x))))) Z) (hq : q < 65 := by decide) : gx_G K D nL k n pc lv (.int x :: .int i0 :: .ref (ad q) :: st) (gx_w ad h) Z := gx_iastore0 C q (gx_w_at hq he) hd hin (by rw [gx_w_set]; exact kk)
theorem gx_laload (C : gx_C K D dA y cc nL ret d) {n0 : Nat} {f : Nat → Int64} {i0 : Int32} (he : h q = .inl (dA 1, n0, .inr (.inl (f)))) (hd : decode cc pc = .ok (.laload, 1)) (hin : vp_in i0 n0) (kk : gx_G K D nL k n (pc + 1) lv (.long (f i0.toNatClampNeg) :: st) (gx_w ad h) Z) (hq : q < 65 := by decide) : gx_G K D nL k n pc lv (.int i0 :: .ref (ad q) :: st) (gx_w ad h) Z := gx_laload0 C q (gx_w_at hq he) hd hin kk
theorem gx_lastore (C : gx_C K D dA y cc nL ret d) {n0 : Nat} {f : Nat → Int64} {i0 : Int32} {x : Int64} (he : h q = .inl (dA 1, n0, .inr (.inl (f)))) (hd : decode cc pc = .ok (.lastore, 1)) (hin : vp_in i0 n0) (kk : gx_G K D nL k n (pc + 1) lv st (gx_w ad (va_up h q (.inl (dA 1, n0, .inr (.inl (vp_updL f i0.toNatClampNeg x)))))) Z) (hq : q < 65 := by decide) : gx_G K D nL k n pc lv (.long x :: .int i0 :: .ref (ad q) :: st) (gx_w ad h) Z := gx_lastore0 C q (gx_w_at hq he) hd hin (by rw [gx_w_set]; exact kk)
theorem gx_caload (C : gx_C K D dA y cc nL ret d) {n0 : Nat} {f : Nat → Int32} {i0 : Int32} (he : h q = .inl (dA 2, n0, .inl (f))) (hd : decode cc pc = .ok (.caload, 1)) (hin : vp_in i0 n0) (kk : gx_G K D nL k n (pc + 1) lv (.int (f i0.toNatClampNeg) :: st) (gx_w ad h) Z) (hq : q < 65 := by decide) : gx_G K D nL k n pc lv (.int i0 :: .ref (ad q) :: st) (gx_w ad h) Z := gx_caload0 C q (gx_w_at hq he) hd hin kk
theorem gx_castore (C : gx_C K D dA y cc nL ret d) {n0 : Nat} {f : Nat → Int32} {i0 : Int32} {x : Int32} (he : h q = .inl (dA 2, n0, .inl (f))) (hd : decode cc pc = .ok (.castore, 1)) (hin : vp_in i0 n0) (kk : gx_G K D nL k n (pc + 1) lv st (gx_w ad (va_up h q (.inl (dA 2, n0, .inl (upd f i0.toNatClampNeg (vp_nar .char x)))))) Z) (hq : q < 65 := by decide) : gx_G K D nL k n pc lv (.int x :: .int i0 :: .ref (ad q) :: st) (gx_w ad h) Z := gx_castore0 C q (gx_w_at hq he) hd hin (by rw [gx_w_set]; exact kk)
theorem gx_zaload (C : gx_C K D dA y cc nL ret d) {n0 : Nat} {f : Nat → Int32} {i0 : Int32} (he : h q = .inl (dA 3, n0, .inl (f))) (hd : decode cc pc = .ok (.baload, 1)) (hin : vp_in i0 n0) (kk : gx_G K D nL k n (pc + 1) lv (.int (f i0.toNatClampNeg) :: st) (gx_w ad h) Z) (hq : q < 65 := by decide) : gx_G K D nL k n pc lv (.int i0 :: .ref (ad q) :: st) (gx_w ad h) Z := gx_zaload0 C q (gx_w_at hq he) hd hin kk
theorem gx_zastore (C : gx_C K D dA y cc nL ret d) {n0 : Nat} {f : Nat → Int32} {i0 : Int32} {x : Int32} (he : h q = .inl (dA 3, n0, .inl (f))) (hd : decode cc pc = .ok (.bastore, 1)) (hin : vp_in i0 n0) (kk : gx_G K D nL k n (pc + 1) lv st (gx_w ad (va_up h q (.inl (dA 3, n0, .inl (upd f i0.toNatClampNeg (vp_nar .boolean x)))))) Z) (hq : q < 65 := by decide) : gx_G K D nL k n pc lv (.int x :: .int i0 :: .ref (ad q) :: st) (gx_w ad h) Z := gx_zastore0 C q (gx_w_at hq he) hd hin (by rw [gx_w_set]; exact kk)
theorem gx_aaload (C : gx_C K D dA y cc nL ret d) {n0 : Nat} {f : Nat → Option Nat} {i0 : Int32} {a : Nat} (he : h q = .inl (dA 4, n0, .inr (.inr (.inr (.inr f))))) (hd : decode cc pc = .ok (.aaload, 1)) (hin : vp_in i0 n0) (ha : f i0.toNatClampNeg = some a) (kk : gx_G K D nL k n (pc + 1) lv (.ref a :: st) (gx_w ad h) Z) (hq : q < 65 := by decide) : gx_G K D nL k n pc lv (.int i0 :: .ref (ad q) :: st) (gx_w ad h) Z := gx_aaload0 C q (gx_w_at hq he) hd hin (by rw [ha]; exact kk)
theorem gx_alen (C : gx_C K D dA y cc nL ret d) {t0 : Nat} {x : vp_A} {ty : FieldType} (he : h q = .inl (dA t0, x)) (hd : decode cc pc = .ok (.arraylength, 1)) (kk : gx_G K D nL k n (pc + 1) lv (.int (nI x.1) :: st) (gx_w ad h) Z) (hq : q < 65 := by decide) (ht : (gx_T dA)[t0]? = some (dA t0, ty) := by rfl) : gx_G K D nL k n pc lv (.ref (ad q) :: st) (gx_w ad h) Z := gx_alen0 C q (gx_w_at hq he) ht hd kk
theorem gx_aastore (C : gx_C K D dA y cc nL ret d) {n0 ci : Nat} {T : u_T} {N : Nat} {vs : List Value} {f : Nat → Option Nat} {i0 : Int32} {q2 : Nat} (he : h q = .inl (dA 4, n0, .inr (.inr (.inr (.inr f))))) (hv : h q2 = .inr (ci, vs)) (hc : vw_Cl[ci]? = some ("WeighedMachines$Machine", T, N)) (hd : decode cc pc = .ok (.aastore, 1)) (hin : vp_in i0 n0) (kk : gx_G K D nL k n (pc + 1) lv st (gx_w ad (va_up h q (.inl (dA 4, n0, .inr (.inr (.inr (.inr (va_up f i0.toNatClampNeg (some (ad q2)))))))))) Z) (hq : q < 65 := by decide) (hq2 : q2 < 65 := by decide) : gx_G K D nL k n pc lv (.ref (ad q2) :: .int i0 :: .ref (ad q) :: st) (gx_w ad h) Z := gx_aastore0 C q q2 (gx_w_at hq he) (gx_w_at hq2 hv) hc hd hin (by rw [gx_w_set]; exact kk)
theorem gm_get (C : gx_C K D dA y cc nL ret d) {idx j : Nat} {v : Value} (F : gx_fd y.cls idx gm_ci j) (hi : i < 5) (hd : decode cc pc = .ok (.getfield idx, 3)) (kk : gx_G K D nL k n (pc + 3) lv (v :: st) (gx_w ad (gm_h dA ad mm r)) Z) (hv : (gm_fs ad (mm i) i)[j]? = some v := by rfl) : gx_G K D nL k n pc lv (.ref (ad (2 + 4 * i)) :: st) (gx_w ad (gm_h dA ad mm r)) Z := gx_get C F (gm_at (j := 0) hi (by decide)) hd kk (by omega) hv
theorem gm_put_n (C : gx_C K D dA y cc nL ret d) {idx : Nat} {v : Int32} (F : gx_fw y.cls idx gm_ci 0 .int) (hi : i < 5) (hd : decode cc pc = .ok (.putfield idx, 3)) (kk : gx_G K D nL k n (pc + 3) lv st (gx_w ad (gm_h dA ad (va_up mm i (v, gm_q (mm i), gm_s (mm i), gm_e (mm i), gm_c (mm i), gm_k (mm i), gm_g (mm i))) r)) Z) : gx_G K D nL k n pc lv (.int v :: .ref (ad (2 + 4 * i)) :: st) (gx_w ad (gm_h dA ad mm r)) Z := gx_put C F (gm_at (j := 0) hi (by decide)) hd (by rw [← gm_up 0 (v, gm_q (mm i), gm_s (mm i), gm_e (mm i), gm_c (mm i), gm_k (mm i), gm_g (mm i)) hi (by decide) (fun b hb hn => by rcases (show b = 1 ∨ b = 2 ∨ b = 3 by omega) with rfl | rfl | rfl <;> rfl)] at kk; exact kk) (by omega) rfl rfl (by simp)
theorem gm_put_q (C : gx_C K D dA y cc nL ret d) {idx : Nat} {v : Int32} (F : gx_fw y.cls idx gm_ci 1 .int) (hi : i < 5) (hd : decode cc pc = .ok (.putfield idx, 3)) (kk : gx_G K D nL k n (pc + 3) lv st (gx_w ad (gm_h dA ad (va_up mm i (gm_n (mm i), v, gm_s (mm i), gm_e (mm i), gm_c (mm i), gm_k (mm i), gm_g (mm i))) r)) Z) : gx_G K D nL k n pc lv (.int v :: .ref (ad (2 + 4 * i)) :: st) (gx_w ad (gm_h dA ad mm r)) Z := gx_put C F (gm_at (j := 0) hi (by decide)) hd (by rw [← gm_up 0 (gm_n (mm i), v, gm_s (mm i), gm_e (mm i), gm_c (mm i), gm_k (mm i), gm_g (mm i)) hi (by decide) (fun b hb hn => by rcases (show b = 1 ∨ b = 2 ∨ b = 3 by omega) with rfl | rfl | rfl <;> rfl)] at kk; exact kk) (by omega) rfl rfl (by simp)
theorem gm_put_s (C : gx_C K D dA y cc nL ret d) {idx : Nat} {v : Int64} (F : gx_fw y.cls idx gm_ci 2 .long) (hi : i < 5) (hd : decode cc pc = .ok (.putfield idx, 3)) (kk : gx_G K D nL k n (pc + 3) lv st (gx_w ad (gm_h dA ad (va_up mm i (gm_n (mm i), gm_q (mm i), v, gm_e (mm i), gm_c (mm i), gm_k (mm i), gm_g (mm i))) r)) Z) : gx_G K D nL k n pc lv (.long v :: .ref (ad (2 + 4 * i)) :: st) (gx_w ad (gm_h dA ad mm r)) Z := gx_put C F (gm_at (j := 0) hi (by decide)) hd (by rw [← gm_up 0 (gm_n (mm i), gm_q (mm i), v, gm_e (mm i), gm_c (mm i), gm_k (mm i), gm_g (mm i)) hi (by decide) (fun b hb hn => by rcases (show b = 1 ∨ b = 2 ∨ b = 3 by omega) with rfl | rfl | rfl <;> rfl)] at kk; exact kk) (by omega) rfl rfl (by simp)
theorem gm_put_c (C : gx_C K D dA y cc nL ret d) {idx : Nat} {v : Int32} (F : gx_fw y.cls idx gm_ci 4 .int) (hi : i < 5) (hd : decode cc pc = .ok (.putfield idx, 3)) (kk : gx_G K D nL k n (pc + 3) lv st (gx_w ad (gm_h dA ad (va_up mm i (gm_n (mm i), gm_q (mm i), gm_s (mm i), gm_e (mm i), v, gm_k (mm i), gm_g (mm i))) r)) Z) : gx_G K D nL k n pc lv (.int v :: .ref (ad (2 + 4 * i)) :: st) (gx_w ad (gm_h dA ad mm r)) Z := gx_put C F (gm_at (j := 0) hi (by decide)) hd (by rw [← gm_up 0 (gm_n (mm i), gm_q (mm i), gm_s (mm i), gm_e (mm i), v, gm_k (mm i), gm_g (mm i)) hi (by decide) (fun b hb hn => by rcases (show b = 1 ∨ b = 2 ∨ b = 3 by omega) with rfl | rfl | rfl <;> rfl)] at kk; exact kk) (by omega) rfl rfl (by simp)
theorem gm_ld_e (C : gx_C K D dA y cc nL ret d) {i0 : Int32} (hi : i < 5) (hd : decode cc pc = .ok (.laload, 1)) (hin : vp_in i0 16) (kk : gx_G K D nL k n (pc + 1) lv (.long (gm_e (mm i) i0.toNatClampNeg) :: st) (gx_w ad (gm_h dA ad mm r)) Z) : gx_G K D nL k n pc lv (.int i0 :: .ref (ad (2 + 4 * i + 1)) :: st) (gx_w ad (gm_h dA ad mm r)) Z := gx_laload C (gm_at (j := 1) hi (by decide)) hd hin kk (by omega)
theorem gm_st_e (C : gx_C K D dA y cc nL ret d) {i0 : Int32} {x : Int64} (hi : i < 5) (hd : decode cc pc = .ok (.lastore, 1)) (hin : vp_in i0 16) (kk : gx_G K D nL k n (pc + 1) lv st (gx_w ad (gm_h dA ad (va_up mm i (gm_n (mm i), gm_q (mm i), gm_s (mm i), vp_updL (gm_e (mm i)) i0.toNatClampNeg x, gm_c (mm i), gm_k (mm i), gm_g (mm i))) r)) Z) : gx_G K D nL k n pc lv (.long x :: .int i0 :: .ref (ad (2 + 4 * i + 1)) :: st) (gx_w ad (gm_h dA ad mm r)) Z := gx_lastore C (gm_at (j := 1) hi (by decide)) hd hin (by rw [← gm_up 1 (gm_n (mm i), gm_q (mm i), gm_s (mm i), vp_updL (gm_e (mm i)) i0.toNatClampNeg x, gm_c (mm i), gm_k (mm i), gm_g (mm i)) hi (by decide) (fun b hb hn => by rcases (show b = 0 ∨ b = 2 ∨ b = 3 by omega) with rfl | rfl | rfl <;> rfl)] at kk; exact kk) (by omega)
theorem gm_ld_k (C : gx_C K D dA y cc nL ret d) {i0 : Int32} (hi : i < 5) (hd : decode cc pc = .ok (.iaload, 1)) (hin : vp_in i0 64) (kk : gx_G K D nL k n (pc + 1) lv (.int (gm_k (mm i) i0.toNatClampNeg) :: st) (gx_w ad (gm_h dA ad mm r)) Z) : gx_G K D nL k n pc lv (.int i0 :: .ref (ad (2 + 4 * i + 2)) :: st) (gx_w ad (gm_h dA ad mm r)) Z := gx_iaload C (gm_at (j := 2) hi (by decide)) hd hin kk (by omega)
theorem gm_st_k (C : gx_C K D dA y cc nL ret d) {i0 : Int32} {x : Int32} (hi : i < 5) (hd : decode cc pc = .ok (.iastore, 1)) (hin : vp_in i0 64) (kk : gx_G K D nL k n (pc + 1) lv st (gx_w ad (gm_h dA ad (va_up mm i (gm_n (mm i), gm_q (mm i), gm_s (mm i), gm_e (mm i), gm_c (mm i), upd (gm_k (mm i)) i0.toNatClampNeg x, gm_g (mm i))) r)) Z) : gx_G K D nL k n pc lv (.int x :: .int i0 :: .ref (ad (2 + 4 * i + 2)) :: st) (gx_w ad (gm_h dA ad mm r)) Z := gx_iastore C (gm_at (j := 2) hi (by decide)) hd hin (by rw [← gm_up 2 (gm_n (mm i), gm_q (mm i), gm_s (mm i), gm_e (mm i), gm_c (mm i), upd (gm_k (mm i)) i0.toNatClampNeg x, gm_g (mm i)) hi (by decide) (fun b hb hn => by rcases (show b = 0 ∨ b = 1 ∨ b = 3 by omega) with rfl | rfl | rfl <;> rfl)] at kk; exact kk) (by omega)
theorem gm_ld_g (C : gx_C K D dA y cc nL ret d) {i0 : Int32} (hi : i < 5) (hd : decode cc pc = .ok (.laload, 1)) (hin : vp_in i0 64) (kk : gx_G K D nL k n (pc + 1) lv (.long (gm_g (mm i) i0.toNatClampNeg) :: st) (gx_w ad (gm_h dA ad mm r)) Z) : gx_G K D nL k n pc lv (.int i0 :: .ref (ad (2 + 4 * i + 3)) :: st) (gx_w ad (gm_h dA ad mm r)) Z := gx_laload C (gm_at (j := 3) hi (by decide)) hd hin kk (by omega)
theorem gm_st_g (C : gx_C K D dA y cc nL ret d) {i0 : Int32} {x : Int64} (hi : i < 5) (hd : decode cc pc = .ok (.lastore, 1)) (hin : vp_in i0 64) (kk : gx_G K D nL k n (pc + 1) lv st (gx_w ad (gm_h dA ad (va_up mm i (gm_n (mm i), gm_q (mm i), gm_s (mm i), gm_e (mm i), gm_c (mm i), gm_k (mm i), vp_updL (gm_g (mm i)) i0.toNatClampNeg x)) r)) Z) : gx_G K D nL k n pc lv (.long x :: .int i0 :: .ref (ad (2 + 4 * i + 3)) :: st) (gx_w ad (gm_h dA ad mm r)) Z := gx_lastore C (gm_at (j := 3) hi (by decide)) hd hin (by rw [← gm_up 3 (gm_n (mm i), gm_q (mm i), gm_s (mm i), gm_e (mm i), gm_c (mm i), gm_k (mm i), vp_updL (gm_g (mm i)) i0.toNatClampNeg x) hi (by decide) (fun b hb hn => by rcases (show b = 0 ∨ b = 1 ∨ b = 2 by omega) with rfl | rfl | rfl <;> rfl)] at kk; exact kk) (by omega)
end GM
