/-! COMPOSING, as both programs do it: triples in the order of finding, arcs brought one by one; none where the room ends -/
theorem am_pl_0 {key : Nat} : ∀ {l : List (Nat × Nat)}, (∀ x ∈ l, key ≤ x.1) → am_pl key l = 0
  | [], _ => rfl
  | x :: t, h => by
    have := h x List.mem_cons_self
    unfold am_pl
    rw [if_neg (by omega)]
theorem am_rg {lo hi : Nat} (hlh : lo ≤ hi) : ∀ {l : List (Nat × Nat)}, am_so l → (l.take (am_pl hi l)).drop (am_pl lo l) = l.filter (fun x => decide (lo ≤ x.1 ∧ x.1 < hi))
  | [], _ => rfl
  | x :: t, hs => by
    obtain ⟨h1, h2⟩ := List.pairwise_cons.mp hs
    have ih := am_rg hlh h2
    by_cases a1 : x.1 < lo
    · have e1 : am_pl lo (x :: t) = am_pl lo t + 1 := by simp [am_pl, a1]
      have e2 : am_pl hi (x :: t) = am_pl hi t + 1 := by simp [am_pl, show x.1 < hi by omega]
      rw [e1, e2, List.take_succ_cons, List.drop_succ_cons, ih, List.filter_cons_of_neg (by simp; omega)]
    · have e1 : am_pl lo (x :: t) = 0 := by simp [am_pl, a1]
      have e0 : am_pl lo t = 0 := am_pl_0 (fun y hy => by have := h1 y hy; omega)
      rw [e0] at ih
      by_cases a2 : x.1 < hi
      · have e2 : am_pl hi (x :: t) = am_pl hi t + 1 := by simp [am_pl, a2]
        rw [e1, e2, List.take_succ_cons, List.drop_zero, List.filter_cons_of_pos (by simp; omega), ← ih, List.drop_zero]
      · have e2 : am_pl hi (x :: t) = 0 := by simp [am_pl, a2]
        rw [e1, e2, List.take_zero, List.drop_zero]
        symm
        rw [List.filter_eq_nil_iff]
        intro y hy
        rcases List.mem_cons.mp hy with rfl | hy
        · simp; omega
        · have := h1 y hy
          simp; omega
theorem am_pl_mono {lo hi : Nat} (h : lo ≤ hi) : ∀ l : List (Nat × Nat), am_pl lo l ≤ am_pl hi l
  | [] => Nat.le_refl _
  | x :: t => by
    have := am_pl_mono h t
    unfold am_pl
    by_cases a : x.1 < lo
    · rw [if_pos a, if_pos (by omega)]; omega
    · rw [if_neg a]; omega
-- what bringing keeps
theorem am_in_mem {key w : Nat} {l : List (Nat × Nat)} {y : Nat × Nat} (h : y ∈ am_in key w l) : y ∈ l ∨ (y.1 = key ∧ (y.2 = w ∨ ∃ x ∈ l, y.2 = x.2)) := by
  have hp := am_pl_le key l
  unfold am_in at h
  split at h
  · rename_i x hx
    split at h
    · rcases List.mem_or_eq_of_mem_set h with h | h
      · exact Or.inl h
      · subst h
        refine Or.inr ⟨rfl, ?_⟩
        show (if w < x.2 then w else x.2) = w ∨ _
        split
        · exact Or.inl rfl
        · exact Or.inr ⟨x, List.mem_of_getElem? hx, rfl⟩
    · rcases List.mem_append.mp h with h | h
      · exact Or.inl (List.mem_of_mem_take h)
      · rcases List.mem_cons.mp h with h | h
        · subst h; exact Or.inr ⟨rfl, Or.inl rfl⟩
        · exact Or.inl (List.mem_of_mem_drop h)
  · rcases List.mem_append.mp h with h | h
    · exact Or.inl (List.mem_of_mem_take h)
    · rcases List.mem_cons.mp h with h | h
      · subst h; exact Or.inr ⟨rfl, Or.inl rfl⟩
      · exact Or.inl (List.mem_of_mem_drop h)
theorem am_in_len {key w : Nat} {l : List (Nat × Nat)} (h : am_rm key l = true) (hl : l.length ≤ 64) : (am_in key w l).length ≤ 64 := by
  have hp := am_pl_le key l
  unfold am_rm am_has at h
  unfold am_in
  split
  · rename_i x hx
    rw [hx] at h
    split
    · simp; exact hl
    · rename_i hne
      rw [am_ins_len hp]
      simp [hne] at h
      omega
  · rename_i hx
    rw [hx] at h
    rw [am_ins_len hp]
    simp at h
    omega
theorem am_in_so {key w : Nat} {l : List (Nat × Nat)} (h : am_so l) : am_so (am_in key w l) := by
  have hp := am_pl_le key l
  have hins : (∀ x, l[am_pl key l]? = some x → x.1 ≠ key) → am_so (l.take (am_pl key l) ++ (key, w) :: l.drop (am_pl key l)) := by
    intro hne
    refine List.pairwise_append.mpr ⟨h.sublist (List.take_sublist _ _), List.pairwise_cons.mpr ⟨fun y hy => ?_, h.sublist (List.drop_sublist _ _)⟩, fun x hx y hy => ?_⟩
    · obtain ⟨j, hj⟩ := List.getElem?_of_mem hy
      rw [List.getElem?_drop] at hj
      have h1 := am_pl_hi key l _ y h (Nat.le_add_right _ _) hj
      have h2 : key ≠ y.1 := fun e => by
        by_cases hj0 : j = 0
        · subst hj0
          exact hne y hj e.symm
        · obtain ⟨z, hz⟩ : ∃ z, l[am_pl key l]? = some z := ⟨_, List.getElem?_eq_getElem (by have := (List.getElem?_eq_some_iff.mp hj).1; omega)⟩
          have h3 := am_pl_hi key l _ z h (Nat.le_refl _) hz
          have h4 : z.1 < y.1 := by
            obtain ⟨hl1, e1⟩ := List.getElem?_eq_some_iff.mp hz
            obtain ⟨hl2, e2⟩ := List.getElem?_eq_some_iff.mp hj
            have := List.pairwise_iff_getElem.mp h (am_pl key l) (am_pl key l + j) hl1 hl2 (by omega)
            rw [e1, e2] at this
            exact this
          omega
      show key < y.1
      omega
    · obtain ⟨j, hj⟩ := List.getElem?_of_mem hx
      have hjl : j < am_pl key l := by
        have := (List.getElem?_eq_some_iff.mp hj).1
        simp at this
        omega
      rw [List.getElem?_take_of_lt hjl] at hj
      have h1 := am_pl_lo key l j x hjl hj
      rcases List.mem_cons.mp hy with rfl | hy
      · exact h1
      · obtain ⟨j2, hj2⟩ := List.getElem?_of_mem hy
        rw [List.getElem?_drop] at hj2
        have := am_pl_hi key l _ y h (Nat.le_add_right _ _) hj2
        omega
  unfold am_in
  split
  · rename_i x hx
    split
    · rename_i hk
      rw [am_so, List.pairwise_iff_getElem]
      intro i j hi hj hij
      simp at hi hj
      have base := List.pairwise_iff_getElem.mp h i j hi hj hij
      obtain ⟨hxl, hxe⟩ := List.getElem?_eq_some_iff.mp hx
      rw [List.getElem_set, List.getElem_set]
      by_cases c1 : am_pl key l = i
      · subst c1
        rw [if_pos rfl, if_neg (show ¬ am_pl key l = j by omega)]
        rw [hxe, hk] at base
        exact base
      · rw [if_neg c1]
        by_cases c2 : am_pl key l = j
        · subst c2
          rw [if_pos rfl]
          rw [hxe, hk] at base
          exact base
        · rw [if_neg c2]
          exact base
    · rename_i hk
      exact hins (fun y hy => by rw [hx] at hy; cases hy; exact hk)
  · rename_i hx
    exact hins (fun y hy => by rw [hx] at hy; cases hy)
-- triples
abbrev co_t : Type := Nat × Nat × Nat
abbrev co_S : Type := List co_t × List (Nat × Nat)
def co_cd (t : co_t) : Nat := t.1 * 64 + t.2.1 * 4 + t.2.2
def co_ok (t : co_t) : Prop := t.1 < 16 ∧ t.2.1 < 16 ∧ t.2.2 < 3
theorem co_cd_inj {t u : co_t} (ht : co_ok t) (hu : co_ok u) (h : co_cd t = co_cd u) : t = u := by
  obtain ⟨p, q, f⟩ := t
  obtain ⟨p2, q2, f2⟩ := u
  simp only [co_cd, co_ok] at *
  have h1 : p = p2 := by omega
  have h2 : q = q2 := by omega
  have h3 : f = f2 := by omega
  subst h1; subst h2; subst h3
  rfl
/-- where a triple stands, or is put -/
def co_fd (t : co_t) : List co_t → Option (Nat × List co_t) := fun T =>
  match T.findIdx? (fun u => decide (u = t)) with
  | some k => some (k, T)
  | none => if T.length < 16 then some (T.length, T ++ [t]) else none
/-- an item: labels, weight, triple -/
abbrev co_I : Type := Nat × Nat × co_t
def co_br (s : Nat) (c : co_S) (x : co_I) : Option co_S := match co_fd x.2.2 c.1 with
  | none => none
  | some y => if am_rm (s * 1024 + x.1 * 16 + y.1) c.2 = true then some (y.2, am_in (s * 1024 + x.1 * 16 + y.1) x.2.1 c.2) else none
def co_run (s : Nat) : List co_I → co_S → Option co_S
  | [], c => some c
  | x :: t, c => match co_br s c x with
    | none => none
    | some c2 => co_run s t c2
theorem co_run_app (s : Nat) : ∀ (A B : List co_I) (c : co_S), co_run s (A ++ B) c = match co_run s A c with
    | none => none
    | some c2 => co_run s B c2
  | [], B, c => rfl
  | x :: t, B, c => by
    show (match co_br s c x with | none => none | some c2 => co_run s (t ++ B) c2) = match (match co_br s c x with | none => none | some c2 => co_run s t c2) with | none => none | some c2 => co_run s B c2
    cases co_br s c x with
    | none => rfl
    | some c2 => exact co_run_app s t B c2
-- the items
def co_i2 (x y : Nat × Nat) : co_I := (8 * (x.1 / 128 % 8) + y.1 / 16 % 8, x.2 + y.2, x.1 % 16, y.1 % 16, 0)
def co_bx (lb : List (Nat × Nat)) (q : Nat) (empty : Bool) (x : Nat × Nat) : List co_I := if decide (x.1 / 16 % 8 = 0) = empty then (lb.filter (fun y => decide (y.1 / 128 = q * 8 + x.1 / 16 % 8))).map (co_i2 x) else []
def co_both (la lb : List (Nat × Nat)) (p q : Nat) (empty : Bool) : List co_I := (la.filter (fun x => decide (x.1 / 1024 = p))).flatMap (co_bx lb q empty)
def co_f1 (q : Nat) (x : Nat × Nat) : List co_I := if x.1 / 16 % 8 = 0 then [(8 * (x.1 / 128 % 8) + 0, x.2, x.1 % 16, q, 1)] else []
def co_first (la : List (Nat × Nat)) (p q : Nat) : List co_I := (la.filter (fun x => decide (x.1 / 1024 = p))).flatMap (co_f1 q)
def co_s1 (p : Nat) (y : Nat × Nat) : co_I := (8 * 0 + y.1 / 16 % 8, y.2, p, y.1 % 16, 2)
def co_second (lb : List (Nat × Nat)) (p q : Nat) : List co_I := (lb.filter (fun y => decide (y.1 / 128 = q * 8 + 0))).map (co_s1 p)
def co_items (la lb : List (Nat × Nat)) (t : co_t) : List co_I := co_both la lb t.1 t.2.1 false ++ ((if t.2.2 = 0 then co_both la lb t.1 t.2.1 true else []) ++ ((if t.2.2 = 2 then [] else co_first la t.1 t.2.1) ++ (if t.2.2 = 1 then [] else co_second lb t.1 t.2.1)))
/-- from the state s on -/
def co_ex (la lb : List (Nat × Nat)) : Nat → Nat → co_S → Option co_S
  | 0, _, c => some c
  | m + 1, s, c => match c.1[s]? with
    | none => some c
    | some t => match co_run s (co_items la lb t) c with
      | none => none
      | some c2 => co_ex la lb m (s + 1) c2
theorem co_fr {l : List (Nat × Nat)} (hs : am_so l) (p : Nat) : (l.take (am_pl ((p + 1) * 1024 + 0 * 16 + 0) l)).drop (am_pl (p * 1024 + 0 * 16 + 0) l) = l.filter (fun x => decide (x.1 / 1024 = p)) := by
  rw [am_rg (by omega) hs]
  apply List.filter_congr
  intro x _
  apply decide_eq_decide.mpr
  omega
theorem co_lr {l : List (Nat × Nat)} (hs : am_so l) (q m : Nat) : (l.take (am_pl (q * 1024 + (8 * (m + 1) + 0) * 16 + 0) l)).drop (am_pl (q * 1024 + (8 * m + 0) * 16 + 0) l) = l.filter (fun x => decide (x.1 / 128 = q * 8 + m)) := by
  rw [am_rg (by omega) hs]
  apply List.filter_congr
  intro x _
  apply decide_eq_decide.mpr
  omega
