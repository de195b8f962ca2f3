/-! LEAST WEIGHTS over ways: values are naturals, or none where there is no way. Rounds in place, rounds side by side, and that both come to the one least solution. -/
def ls_le (a b : Option Nat) : Prop := ∀ y, b = some y → ∃ x, a = some x ∧ x ≤ y
def ls_ad (a : Option Nat) (w : Nat) : Option Nat := a.map (fun x => x + w)
def ls_lt (a b : Option Nat) : Bool := match a, b with
  | some x, some y => decide (x < y)
  | some _, none => true
  | none, _ => false
theorem ls_rf (a : Option Nat) : ls_le a a := fun y h => ⟨y, h, Nat.le_refl _⟩
theorem ls_tr {a b c : Option Nat} (h1 : ls_le a b) (h2 : ls_le b c) : ls_le a c := fun y hy => by
  obtain ⟨x, hx, hxy⟩ := h2 y hy
  obtain ⟨z, hz, hzx⟩ := h1 x hx
  exact ⟨z, hz, Nat.le_trans hzx hxy⟩
theorem ls_nlt {a b : Option Nat} : ls_lt a b = false ↔ ls_le b a := by
  cases a <;> cases b <;> simp [ls_lt, ls_le]
theorem ls_lt_le {a b : Option Nat} (h : ls_lt a b = true) : ls_le a b := by
  cases a with
  | none => simp [ls_lt] at h
  | some x =>
    intro y hy
    subst hy
    simp [ls_lt] at h
    exact ⟨x, rfl, Nat.le_of_lt h⟩
theorem ls_lt_nle {a b : Option Nat} (h : ls_lt a b = true) (h2 : ls_le b a) : False := by
  have h3 := ls_nlt.mpr h2
  rw [h] at h3
  cases h3
theorem ls_le_or (a b : Option Nat) : ls_lt a b = true ∨ ls_le b a := by
  cases h : ls_lt a b with
  | true => exact Or.inl rfl
  | false => exact Or.inr (ls_nlt.mp h)
theorem ls_le_lt {a b c : Option Nat} (h1 : ls_le a b) (h2 : ls_lt b c = true) : ls_lt a c = true := by
  rcases ls_le_or a c with h | h
  · exact h
  · exact (ls_lt_nle h2 (ls_tr h h1)).elim
theorem ls_lt_le_lt {a b c : Option Nat} (h1 : ls_lt a b = true) (h2 : ls_le b c) : ls_lt a c = true := by
  rcases ls_le_or a c with h | h
  · exact h
  · exact (ls_lt_nle h1 (ls_tr h2 h)).elim
theorem ls_anti {a b : Option Nat} (h1 : ls_le a b) (h2 : ls_le b a) : a = b := by
  cases a with
  | none =>
    cases b with
    | none => rfl
    | some y => obtain ⟨x, hx, -⟩ := h1 y rfl; cases hx
  | some x =>
    obtain ⟨y, hy, hyx⟩ := h2 x rfl
    subst hy
    obtain ⟨z, hz, hzy⟩ := h1 y rfl
    cases hz
    rw [Nat.le_antisymm hzy hyx]
theorem ls_ad_mono {a b : Option Nat} (w : Nat) (h : ls_le a b) : ls_le (ls_ad a w) (ls_ad b w) := by
  intro y hy
  cases b with
  | none => simp [ls_ad] at hy
  | some z =>
    obtain ⟨x, hx, hxz⟩ := h z rfl
    subst hx
    simp [ls_ad] at hy
    exact ⟨x + w, rfl, by omega⟩
theorem ls_ad_ge (a : Option Nat) (w : Nat) : ls_le a (ls_ad a w) := by
  intro y hy
  cases a with
  | none => simp [ls_ad] at hy
  | some x =>
    simp [ls_ad] at hy
    exact ⟨x, rfl, by omega⟩
theorem ls_ad_lt {a b : Option Nat} {w : Nat} (h : ls_lt (ls_ad a w) (ls_ad b w) = true) : ls_lt a b = true := by
  rcases ls_le_or a b with h1 | h1
  · exact h1
  · exact (ls_lt_nle h (ls_ad_mono w h1)).elim
abbrev ls_V : Type := Nat → Option Nat
abbrev ls_A : Type := Nat × Nat × Nat
def ls_rx (v : ls_V) (x : ls_A) : ls_V := if ls_lt (ls_ad (v x.1) x.2.2) (v x.2.1) = true then va_up v x.2.1 (ls_ad (v x.1) x.2.2) else v
def ls_rd (E : List ls_A) (v : ls_V) : ls_V := E.foldl ls_rx v
def ls_cl (E : List ls_A) (v : ls_V) : Prop := ∀ x ∈ E, ls_le (v x.2.1) (ls_ad (v x.1) x.2.2)
def ls_vle (v w : ls_V) : Prop := ∀ q, ls_le (v q) (w q)
theorem ls_vrf (v : ls_V) : ls_vle v v := fun q => ls_rf _
theorem ls_vtr {u v w : ls_V} (h1 : ls_vle u v) (h2 : ls_vle v w) : ls_vle u w := fun q => ls_tr (h1 q) (h2 q)
theorem ls_vanti {v w : ls_V} (h1 : ls_vle v w) (h2 : ls_vle w v) : v = w := funext fun q => ls_anti (h1 q) (h2 q)
theorem ls_rx_le (v : ls_V) (x : ls_A) : ls_vle (ls_rx v x) v := by
  intro q
  unfold ls_rx
  by_cases h : ls_lt (ls_ad (v x.1) x.2.2) (v x.2.1) = true
  · rw [if_pos h]
    by_cases hq : q = x.2.1
    · subst hq
      rw [show va_up v x.2.1 (ls_ad (v x.1) x.2.2) x.2.1 = ls_ad (v x.1) x.2.2 by simp [va_up]]
      exact ls_lt_le h
    · rw [show va_up v x.2.1 (ls_ad (v x.1) x.2.2) q = v q by simp [va_up, hq]]
      exact ls_rf _
  · rw [if_neg h]
    exact ls_rf _
theorem ls_rx_to (v : ls_V) (x : ls_A) : ls_le (ls_rx v x x.2.1) (ls_ad (v x.1) x.2.2) := by
  unfold ls_rx
  by_cases h : ls_lt (ls_ad (v x.1) x.2.2) (v x.2.1) = true
  · rw [if_pos h, show va_up v x.2.1 (ls_ad (v x.1) x.2.2) x.2.1 = ls_ad (v x.1) x.2.2 by simp [va_up]]
    exact ls_rf _
  · rw [if_neg h]
    exact ls_nlt.mp (by simpa using h)
theorem ls_rx_ge {X v : ls_V} {x : ls_A} (h : ls_vle X v) (hc : ls_le (X x.2.1) (ls_ad (X x.1) x.2.2)) : ls_vle X (ls_rx v x) := by
  intro q
  unfold ls_rx
  by_cases h1 : ls_lt (ls_ad (v x.1) x.2.2) (v x.2.1) = true
  · rw [if_pos h1]
    by_cases hq : q = x.2.1
    · subst hq
      rw [show va_up v x.2.1 (ls_ad (v x.1) x.2.2) x.2.1 = ls_ad (v x.1) x.2.2 by simp [va_up]]
      exact ls_tr hc (ls_ad_mono _ (h _))
    · rw [show va_up v x.2.1 (ls_ad (v x.1) x.2.2) q = v q by simp [va_up, hq]]
      exact h q
  · rw [if_neg h1]
    exact h q
theorem ls_rd_le (E : List ls_A) : ∀ v : ls_V, ls_vle (ls_rd E v) v := by
  induction E with
  | nil => intro v; exact ls_vrf v
  | cons x E ih => intro v; exact ls_vtr (ih (ls_rx v x)) (ls_rx_le v x)
theorem ls_rd_to (E : List ls_A) : ∀ (v : ls_V) (x : ls_A), x ∈ E → ls_le (ls_rd E v x.2.1) (ls_ad (v x.1) x.2.2) := by
  induction E with
  | nil => intro v x hx; cases hx
  | cons z E ih =>
    intro v x hx
    rcases List.mem_cons.mp hx with rfl | hx
    · exact ls_tr (ls_rd_le E (ls_rx v x) x.2.1) (ls_rx_to v x)
    · exact ls_tr (ih (ls_rx v z) x hx) (ls_ad_mono _ (ls_rx_le v z x.1))
theorem ls_rd_ge {X : ls_V} (E : List ls_A) : ∀ v : ls_V, ls_vle X v → ls_cl E X → ls_vle X (ls_rd E v) := by
  induction E with
  | nil => intro v h _; exact h
  | cons z E ih =>
    intro v h hc
    exact ih (ls_rx v z) (ls_rx_ge h (hc z List.mem_cons_self)) (fun x hx => hc x (List.mem_cons_of_mem _ hx))
/-- a round that changes nothing: no step lessens anything -/
theorem ls_rd_fix {E : List ls_A} {v : ls_V} (h : ls_rd E v = v) : ls_cl E v := fun x hx => by
  have h1 := ls_rd_to E v x hx
  rw [h] at h1
  exact h1
theorem ls_rx_cl {v : ls_V} {x : ls_A} (h : ls_le (v x.2.1) (ls_ad (v x.1) x.2.2)) : ls_rx v x = v := by
  unfold ls_rx
  rw [if_neg]
  rw [ls_nlt.mpr h]
  exact fun q => by cases q
theorem ls_rd_cl {E : List ls_A} {v : ls_V} (h : ls_cl E v) : ls_rd E v = v := by
  induction E with
  | nil => rfl
  | cons z E ih =>
    show ls_rd E (ls_rx v z) = v
    rw [ls_rx_cl (h z List.mem_cons_self)]
    exact ih (fun x hx => h x (List.mem_cons_of_mem _ hx))
-- rounds side by side
def ls_J (E : List ls_A) (v : ls_V) : ls_V := fun q => E.foldl (fun a x => if x.2.1 = q ∧ ls_lt (ls_ad (v x.1) x.2.2) a = true then ls_ad (v x.1) x.2.2 else a) (v q)
theorem ls_J_all (v : ls_V) (q : Nat) (E : List ls_A) : ∀ a : Option Nat, (ls_le (E.foldl (fun a x => if x.2.1 = q ∧ ls_lt (ls_ad (v x.1) x.2.2) a = true then ls_ad (v x.1) x.2.2 else a) a) a) ∧ (∀ x ∈ E, x.2.1 = q → ls_le (E.foldl (fun a x => if x.2.1 = q ∧ ls_lt (ls_ad (v x.1) x.2.2) a = true then ls_ad (v x.1) x.2.2 else a) a) (ls_ad (v x.1) x.2.2)) ∧ (E.foldl (fun a x => if x.2.1 = q ∧ ls_lt (ls_ad (v x.1) x.2.2) a = true then ls_ad (v x.1) x.2.2 else a) a = a ∨ ∃ x ∈ E, x.2.1 = q ∧ E.foldl (fun a x => if x.2.1 = q ∧ ls_lt (ls_ad (v x.1) x.2.2) a = true then ls_ad (v x.1) x.2.2 else a) a = ls_ad (v x.1) x.2.2) := by
  induction E with
  | nil => intro a; exact ⟨ls_rf a, fun x hx => absurd hx List.not_mem_nil, Or.inl rfl⟩
  | cons z E ih =>
    intro a
    simp only [List.foldl_cons]
    by_cases hz : z.2.1 = q ∧ ls_lt (ls_ad (v z.1) z.2.2) a = true
    · rw [if_pos hz]
      obtain ⟨h1, h2, h3⟩ := ih (ls_ad (v z.1) z.2.2)
      refine ⟨ls_tr h1 (ls_lt_le hz.2), fun x hx hq => ?_, ?_⟩
      · rcases List.mem_cons.mp hx with rfl | hx
        · exact h1
        · exact h2 x hx hq
      · rcases h3 with h3 | ⟨x, hx, hq, h3⟩
        · exact Or.inr ⟨z, List.mem_cons_self, hz.1, h3⟩
        · exact Or.inr ⟨x, List.mem_cons_of_mem _ hx, hq, h3⟩
    · rw [if_neg hz]
      obtain ⟨h1, h2, h3⟩ := ih a
      refine ⟨h1, fun x hx hq => ?_, ?_⟩
      · rcases List.mem_cons.mp hx with rfl | hx
        · rcases ls_le_or (ls_ad (v x.1) x.2.2) a with h | h
          · exact absurd ⟨hq, h⟩ hz
          · exact ls_tr h1 h
        · exact h2 x hx hq
      · rcases h3 with h3 | ⟨x, hx, hq, h3⟩
        · exact Or.inl h3
        · exact Or.inr ⟨x, List.mem_cons_of_mem _ hx, hq, h3⟩
theorem ls_J_le (E : List ls_A) (v : ls_V) : ls_vle (ls_J E v) v := fun q => (ls_J_all v q E (v q)).1
theorem ls_J_to {E : List ls_A} {v : ls_V} {x : ls_A} (hx : x ∈ E) : ls_le (ls_J E v x.2.1) (ls_ad (v x.1) x.2.2) := (ls_J_all v x.2.1 E (v x.2.1)).2.1 x hx rfl
theorem ls_J_or (E : List ls_A) (v : ls_V) (q : Nat) : ls_J E v q = v q ∨ ∃ x ∈ E, x.2.1 = q ∧ ls_J E v q = ls_ad (v x.1) x.2.2 := (ls_J_all v q E (v q)).2.2
def ls_D (E : List ls_A) (v : ls_V) : Nat → ls_V
  | 0 => v
  | k + 1 => ls_J E (ls_D E v k)
theorem ls_D_le (E : List ls_A) (v : ls_V) (k : Nat) : ls_vle (ls_D E v (k + 1)) (ls_D E v k) := ls_J_le E _
theorem ls_D_le0 (E : List ls_A) (v : ls_V) : ∀ k : Nat, ls_vle (ls_D E v k) v
  | 0 => ls_vrf v
  | k + 1 => ls_vtr (ls_D_le E v k) (ls_D_le0 E v k)
theorem ls_D_ge {E : List ls_A} {X v : ls_V} (hX : ls_vle X v) (hc : ls_cl E X) : ∀ k : Nat, ls_vle X (ls_D E v k)
  | 0 => hX
  | k + 1 => fun q => by
    have ih := ls_D_ge hX hc k
    rcases ls_J_or E (ls_D E v k) q with h | ⟨x, hx, hq, h⟩
    · show ls_le (X q) (ls_J E (ls_D E v k) q)
      rw [h]
      exact ih q
    · show ls_le (X q) (ls_J E (ls_D E v k) q)
      rw [h]
      subst hq
      exact ls_tr (hc x hx) (ls_ad_mono _ (ih x.1))
/-- where a round still lessens something, there is a chain of states that are all different -/
theorem ls_chain {E : List ls_A} {v : ls_V} {N : Nat} (hN : ∀ x ∈ E, x.1 < N ∧ x.2.1 < N) : ∀ (k q : Nat), ls_lt (ls_D E v (k + 1) q) (ls_D E v k q) = true →
    ∃ L : List Nat, L.length = k + 2 ∧ L.Nodup ∧ (∀ z ∈ L, z < N) ∧ ∀ z ∈ L, ls_le (ls_D E v (k + 1) z) (ls_D E v (k + 1) q) := by
  intro k
  induction k with
  | zero =>
    intro q hq
    rcases ls_J_or E (ls_D E v 0) q with h | ⟨x, hx, rfl, h⟩
    · have h1 : ls_D E v 1 q = ls_D E v 0 q := h
      rw [h1] at hq
      exact (ls_lt_nle hq (ls_rf _)).elim
    · have h1 : ls_D E v 1 x.2.1 = ls_ad (ls_D E v 0 x.1) x.2.2 := h
      have hle : ls_le (ls_D E v 0 x.1) (ls_D E v 1 x.2.1) := by rw [h1]; exact ls_ad_ge _ _
      have hne : x.2.1 ≠ x.1 := fun e => by
        rw [← e] at hle
        exact ls_lt_nle hq hle
      refine ⟨[x.2.1, x.1], rfl, ?_, ?_, ?_⟩
      · simp [hne]
      · intro z hz
        rcases List.mem_cons.mp hz with rfl | hz
        · exact (hN x hx).2
        · rcases List.mem_cons.mp hz with rfl | hz
          · exact (hN x hx).1
          · cases hz
      · intro z hz
        rcases List.mem_cons.mp hz with rfl | hz
        · exact ls_rf _
        · rcases List.mem_cons.mp hz with rfl | hz
          · exact ls_tr (ls_D_le E v 0 _) hle
          · cases hz
  | succ k ih =>
    intro q hq
    rcases ls_J_or E (ls_D E v (k + 1)) q with h | ⟨x, hx, rfl, h⟩
    · have h1 : ls_D E v (k + 1 + 1) q = ls_D E v (k + 1) q := h
      rw [h1] at hq
      exact (ls_lt_nle hq (ls_rf _)).elim
    · have h1 : ls_D E v (k + 1 + 1) x.2.1 = ls_ad (ls_D E v (k + 1) x.1) x.2.2 := h
      have h2 : ls_le (ls_D E v (k + 1) x.2.1) (ls_ad (ls_D E v k x.1) x.2.2) := ls_J_to hx
      have h3 : ls_lt (ls_D E v (k + 1) x.1) (ls_D E v k x.1) = true := ls_ad_lt (w := x.2.2) (by rw [← h1]; exact ls_lt_le_lt hq h2)
      obtain ⟨L, l1, l2, l3, l4⟩ := ih x.1 h3
      have hle : ls_le (ls_D E v (k + 1) x.1) (ls_D E v (k + 1 + 1) x.2.1) := by rw [h1]; exact ls_ad_ge _ _
      refine ⟨x.2.1 :: L, by simp [l1], ?_, ?_, ?_⟩
      · refine List.nodup_cons.mpr ⟨fun hm => ?_, l2⟩
        exact ls_lt_nle hq (ls_tr (l4 _ hm) hle)
      · intro z hz
        rcases List.mem_cons.mp hz with rfl | hz
        · exact (hN x hx).2
        · exact l3 z hz
      · intro z hz
        rcases List.mem_cons.mp hz with rfl | hz
        · exact ls_rf _
        · exact ls_tr (ls_D_le E v (k + 1) z) (ls_tr (l4 z hz) hle)
theorem ls_pig {N : Nat} {L : List Nat} (h : L.Nodup) (hb : ∀ z ∈ L, z < N) : L.length ≤ N := by
  have h1 : L.length ≤ (List.range N).length := List.Nodup.length_le_of_subset h (fun z hz => List.mem_range.mpr (hb z hz))
  simpa using h1
theorem ls_stab {E : List ls_A} {v : ls_V} {N : Nat} (hN : ∀ x ∈ E, x.1 < N ∧ x.2.1 < N) {k : Nat} (hk : N ≤ k + 1) : ls_D E v (k + 1) = ls_D E v k := by
  refine ls_vanti (ls_D_le E v k) (fun q => ?_)
  rcases ls_le_or (ls_D E v (k + 1) q) (ls_D E v k q) with h | h
  · obtain ⟨L, l1, l2, l3, -⟩ := ls_chain hN k q h
    have := ls_pig l2 l3
    omega
  · exact h
theorem ls_D_cl {E : List ls_A} {v : ls_V} {N : Nat} (hN : ∀ x ∈ E, x.1 < N ∧ x.2.1 < N) {k : Nat} (hk : N ≤ k + 1) : ls_cl E (ls_D E v k) := fun x hx => by
  have h := ls_J_to (v := ls_D E v k) hx
  rw [show ls_J E (ls_D E v k) = ls_D E v k from ls_stab hN hk] at h
  exact h
-- the one least solution
def ls_fix (E : List ls_A) (v X : ls_V) : Prop := ls_vle X v ∧ ls_cl E X ∧ ∀ Y : ls_V, ls_vle Y v → ls_cl E Y → ls_vle Y X
theorem ls_one {E : List ls_A} {v X Y : ls_V} (h1 : ls_fix E v X) (h2 : ls_fix E v Y) : X = Y := ls_vanti (h2.2.2 X h1.1 h1.2.1) (h1.2.2 Y h2.1 h2.2.1)
def ls_it (E : List ls_A) : Nat → ls_V → ls_V
  | 0, v => v
  | k + 1, v => ls_rd E (ls_it E k v)
theorem ls_it_le (E : List ls_A) (v : ls_V) : ∀ k : Nat, ls_vle (ls_it E k v) v
  | 0 => ls_vrf v
  | k + 1 => ls_vtr (ls_rd_le E _) (ls_it_le E v k)
theorem ls_it_ge {E : List ls_A} {X v : ls_V} (hX : ls_vle X v) (hc : ls_cl E X) : ∀ k : Nat, ls_vle X (ls_it E k v)
  | 0 => hX
  | k + 1 => ls_rd_ge E _ (ls_it_ge hX hc k) hc
theorem ls_it_D (E : List ls_A) (v : ls_V) : ∀ k : Nat, ls_vle (ls_it E k v) (ls_D E v k)
  | 0 => ls_vrf v
  | k + 1 => fun q => by
    have ih := ls_it_D E v k
    show ls_le (ls_rd E (ls_it E k v) q) (ls_J E (ls_D E v k) q)
    rcases ls_J_or E (ls_D E v k) q with h | ⟨x, hx, hq, h⟩
    · rw [h]
      exact ls_tr (ls_rd_le E _ q) (ih q)
    · rw [h]
      subst hq
      exact ls_tr (ls_rd_to E _ x hx) (ls_ad_mono _ (ih x.1))
/-- as many rounds in place as there are states, less one, come to the least solution -/
theorem ls_it_fix {E : List ls_A} {v : ls_V} {N : Nat} (hN : ∀ x ∈ E, x.1 < N ∧ x.2.1 < N) {k : Nat} (hk : N ≤ k + 1) : ls_fix E v (ls_it E k v) := by
  have hcD := ls_D_cl (v := v) hN hk
  have he : ls_it E k v = ls_D E v k := ls_vanti (ls_it_D E v k) (ls_it_ge (ls_D_le0 E v k) hcD k)
  rw [he]
  exact ⟨ls_D_le0 E v k, hcD, fun Y h1 h2 => ls_D_ge h1 h2 k⟩
/-- and so do rounds that stopped because nothing changed -/
theorem ls_it_stop {E : List ls_A} {v : ls_V} {k : Nat} (h : ls_rd E (ls_it E k v) = ls_it E k v) : ls_fix E v (ls_it E k v) :=
  ⟨ls_it_le E v k, ls_rd_fix h, fun _ h1 h2 => ls_it_ge h1 h2 k⟩
