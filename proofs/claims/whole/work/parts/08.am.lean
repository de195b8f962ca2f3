/-! MACHINES as the document means them: how many states, the start, the end weights, the arcs as a list of keys and weights in order; and that cells hold one -/
abbrev am_T : Type := Nat × Option (Nat × Nat) × (Nat → Option Nat) × List (Nat × Nat)
abbrev am_n (a : am_T) : Nat := a.1
abbrev am_st (a : am_T) : Option (Nat × Nat) := a.2.1
abbrev am_en (a : am_T) : Nat → Option Nat := a.2.2.1
abbrev am_ar (a : am_T) : List (Nat × Nat) := a.2.2.2
def am_e (o : Option Nat) : Int64 := match o with
  | none => -1
  | some w => lN w
def am_f (o : Option Nat) : Int64 := match o with
  | none => 1152921504606846976
  | some w => lN w
def gm_sq (q : Int32) (s : Int64) (o : Option (Nat × Nat)) : Prop := match o with
  | none => q = -1 ∧ s = lN 0
  | some x => q = nI x.1 ∧ s = lN x.2
def gm_is (M : gm_V) (a : am_T) : Prop := gm_n M = nI (am_n a) ∧ gm_sq (gm_q M) (gm_s M) (am_st a) ∧ (∀ q, q < 16 → gm_e M q = am_e (am_en a q)) ∧ gm_c M = nI (am_ar a).length ∧ ∀ (j : Nat) (x : Nat × Nat), (am_ar a)[j]? = some x → gm_k M j = nI x.1 ∧ gm_g M j = lN x.2
/-- bounds -/
def am_b (B : Nat) (a : am_T) : Prop := am_n a ≤ 16 ∧ (am_ar a).length ≤ 64 ∧ (∀ x ∈ am_ar a, x.1 < 16384 ∧ x.2 < B) ∧ (∀ q e, am_en a q = some e → e < B) ∧ ∀ x, am_st a = some x → x.1 < 16 ∧ x.2 < B
def am_so (l : List (Nat × Nat)) : Prop := l.Pairwise (fun x y => x.1 < y.1)
/-- how many arcs have a lesser key -/
def am_pl (key : Nat) : List (Nat × Nat) → Nat
  | [] => 0
  | x :: t => if x.1 < key then am_pl key t + 1 else 0
theorem am_pl_le (key : Nat) : ∀ l : List (Nat × Nat), am_pl key l ≤ l.length
  | [] => Nat.le_refl _
  | x :: t => by
    have := am_pl_le key t
    unfold am_pl
    split
    · simp; omega
    · simp
theorem am_pl_lo (key : Nat) : ∀ (l : List (Nat × Nat)) (j : Nat) (x : Nat × Nat), j < am_pl key l → l[j]? = some x → x.1 < key
  | [], j, x, h, _ => by simp [am_pl] at h
  | y :: t, j, x, h, hx => by
    unfold am_pl at h
    split at h
    · rename_i hy
      cases j with
      | zero => simp at hx; rw [← hx]; exact hy
      | succ j => exact am_pl_lo key t j x (by omega) (by simpa using hx)
    · omega
theorem am_pl_hi (key : Nat) : ∀ (l : List (Nat × Nat)) (j : Nat) (x : Nat × Nat), am_so l → am_pl key l ≤ j → l[j]? = some x → key ≤ x.1
  | [], j, x, _, _, hx => by simp at hx
  | y :: t, j, x, hs, h, hx => by
    obtain ⟨h1, h2⟩ := List.pairwise_cons.mp hs
    unfold am_pl at h
    split at h
    · cases j with
      | zero => omega
      | succ j => exact am_pl_hi key t j x h2 (by omega) (by simpa using hx)
    · rename_i hy
      cases j with
      | zero => simp at hx; rw [← hx]; omega
      | succ j =>
        have := h1 x (List.mem_of_getElem? (by simpa using hx))
        omega
/-- an arc that is brought: less of two weights, or a new place in the order -/
def am_in (key w : Nat) (l : List (Nat × Nat)) : List (Nat × Nat) := match l[am_pl key l]? with
  | some x => if x.1 = key then l.set (am_pl key l) (key, if w < x.2 then w else x.2) else l.take (am_pl key l) ++ (key, w) :: l.drop (am_pl key l)
  | none => l.take (am_pl key l) ++ (key, w) :: l.drop (am_pl key l)
def am_has (key : Nat) (l : List (Nat × Nat)) : Bool := match l[am_pl key l]? with
  | some x => x.1 == key
  | none => false
/-- is there room for it -/
def am_rm (key : Nat) (l : List (Nat × Nat)) : Bool := am_has key l || decide (l.length < 64)
theorem am_e_none : am_e none = -1 := rfl
theorem am_e_lN {o : Option Nat} (h : ¬ am_e o = -1) : ∃ w, o = some w := by
  cases o with
  | none => exact absurd rfl h
  | some w => exact ⟨w, rfl⟩
theorem lN_m1 {w : Nat} (h : w < 2 ^ 63) : ¬ lN w = -1 := fun e => by
  have h1 := pk_lT h
  rw [e] at h1
  have h2 : (-1 : Int64).toInt = -1 := by decide
  rw [h2] at h1
  omega
theorem am_e_eq {o : Option Nat} (h : ∀ w, o = some w → w < 2 ^ 63) : am_e o = -1 ↔ o = none := by
  cases o with
  | none => exact ⟨fun _ => rfl, fun _ => rfl⟩
  | some w => exact ⟨fun e => absurd e (lN_m1 (h w rfl)), fun e => by cases e⟩
