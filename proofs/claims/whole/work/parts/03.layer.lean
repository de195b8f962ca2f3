/-! THE LAYER: a judgement gx_G that keeps the machine's own names out of sight (they lie in K), and a row for each instruction over it. -/
-- the words: the good ones of the tables, and the nest's
def gx_nest : Cond → Bool
  | .fieldLinkNest .. => true
  | .methodLinkNest .. => true
  | _ => false
def gx_F : List Cond := lw_tbl.filter goodWord
theorem gx_F_in {w : Cond} (h : w ∈ lw_tbl) (hg : goodWord w = true) : w ∈ gx_F := List.mem_filter.mpr ⟨h, hg⟩
theorem gx_F_good {w : Cond} (h : w ∈ gx_F) : (w.onTables && w.keeps) = true ∨ ∃ ty, w = .arrayClass ty := good_of_word (List.mem_filter.mp h).2
def gx_N (U : State) : Prop := ∀ w ∈ lw_tbl, gx_nest w = true → va_Nw w U
theorem gx_N.warm {s U : State} (hW : s.WarmedH U.vm) (h : gx_N s) : gx_N U := by
  intro w hw hn
  cases w <;> first | exact va_Nw.warmF hW (h _ hw hn) | exact va_Nw.warmM hW (h _ hw hn) | cases hn
theorem gx_N.same {s U : State} (hv : s.vm = U.vm) (h : gx_N s) : gx_N U := by
  intro w hw hn
  cases w <;> first | exact va_Nw.same rfl hv (h _ hw hn) | cases hn
theorem gx_N.of {args : Array Value} {s : State} (h : ∀ w ∈ lw_tbl, w.before args s = true) : gx_N s := by
  intro w hw hn
  cases w <;> first | exact va_Nw.of rfl (h _ hw) | cases hn
-- the array classes that the worlds hold
def gx_T (dA : Nat → ClassId) : List (ClassId × FieldType) := [(dA 0, .int), (dA 1, .long), (dA 2, .char), (dA 3, .boolean), (dA 4, .object "WeighedMachines$Machine")]
abbrev gx_K : Type := Program × Launch × Env × Room × State × MethodId × Array Value × List Frame × Method × Code × (Nat → Prop)
abbrev gx_l (K : gx_K) : Launch := K.2.1
abbrev gx_R (K : gx_K) : Room := K.2.2.2.1
abbrev gx_s (K : gx_K) : State := K.2.2.2.2.1
abbrev gx_a (K : gx_K) : Array Value := K.2.2.2.2.2.2.1
abbrev gx_b (K : gx_K) : List Frame := K.2.2.2.2.2.2.2.1
abbrev gx_A (K : gx_K) : Nat → Prop := K.2.2.2.2.2.2.2.2.2.2
/-- what stands fast while a method runs -/
def gx_C (K : gx_K) (D : va_G) (dA : Nat → ClassId) (y : MethodName) (cc : ByteArray) (nL : Nat) (ret : Option FieldType) (d : Nat) : Prop :=
  match K with
  | (p, _, _, R, s, m, args, _, meth, c, A) => p.tables.exec = Jvm.exec ∧ c.code = cc ∧ meth.sig.returnType = ret ∧ meth.locks = false ∧ c.maxLocals = nL ∧ s.vm.findClass y.cls = some m.cls ∧ meth.name = y.name ∧ (∀ w ∈ gx_F, w.before args s = true) ∧ gx_N s ∧ va_K D vw_Cl (gx_T dA) s ∧ (∀ q : Nat, s.heap.size ≤ q → A q) ∧ d ≤ R.frames ∧ 51 * d ≤ R.locals
/-- the machine, at pc with these locals, this stack and this world, comes to Z -/
def gx_G (K : gx_K) (D : va_G) (nL k n pc : Nat) (lv : List (Nat × Value)) (st : List Value) (ws : va_W) (Z : State → Prop) : Prop :=
  match K with
  | (p, l, e, R, s, m, args, below, meth, c, A) => ∀ (H : Heap) (locs : List Loc) (ls : Array Slot), va_P D vw_Cl ws H → va_D A ws → va_S A s.heap H locs → lv_has ls nL lv → W p l e R s m args below meth c H locs k n Z (F0 m pc ls st)
def gx_Q (D : va_G) (dA : Nat → ClassId) (Q : Option Value → va_W → Prop) (A : Nat → Prop) : Array Value → State → Outcome → State → Prop := fun _ st oc t =>
  (∃ (v : Option Value) (w : va_W), oc = .returned v ∧ Q v w ∧ va_P D vw_Cl w t.heap ∧ va_K D vw_Cl (gx_T dA) t ∧ va_D A w) ∧ va_F A st t
def gx_rm (d mc ms : Nat) : Room := { frames := d, cells := mc, slots := ms, locals := 51 * d }
def gx_Pc (D : va_G) (dA : Nat → ClassId) (av : List Value) (ws : va_W) (sz : Nat) : Array Value → State → Prop :=
  va_Pc av (fun U => U.heap.size = sz ∧ va_P D vw_Cl ws U.heap ∧ va_K D vw_Cl (gx_T dA) U ∧ va_D (fun _ => True) ws ∧ gx_N U)
/-- a method's contract: from the world ws with the arguments av it returns, and Q holds of its answer and the world behind it -/
def gx_Ct (l : Launch) (D : va_G) (dA : Nat → ClassId) (y : MethodName) (cc : ByteArray) (nL : Nat) (ret : Option FieldType) (d mc ms : Nat) (av : List Value) (ws : va_W) (Q : Option Value → va_W → Prop) : Prop :=
  ∀ sz : Nat, Met l y (Cond.code y cc nL ret :: gx_F) (gx_rm d mc ms) (gx_Pc D dA av ws sz) (gx_Q D dA Q (va_A ws sz)) mc ms (va_A ws sz)
/-- where a method's walk ends -/
def gx_Z (K : gx_K) (D : va_G) (dA : Nat → ClassId) (mc ms : Nat) (Q : Option Value → va_W → Prop) : State → Prop :=
  MQ (gx_b K) (gx_Q D dA Q (gx_A K)) (gx_a K) (gx_s K) mc ms (gx_A K)
theorem gx_of {l : Launch} {D : va_G} {dA : Nat → ClassId} {y : MethodName} {cc : ByteArray} {nL : Nat} {ret : Option FieldType} {d mc ms : Nat} {av : List Value} {ws : va_W} {Q : Option Value → va_W → Prop}
    (hy : plainName y.cls = true) (hlen : (lg_sl av).length ≤ nL)
    (body : ∀ K : gx_K, gx_C K D dA y cc nL ret d → (gx_R K).cells = mc → (gx_R K).slots = ms → gx_G K D nL 0 0 0 (lv_args 0 av) [] ws (gx_Z K D dA mc ms Q)) :
    gx_Ct l D dA y cc nL ret d mc ms av ws Q := by
  intro sz
  refine Met.ofW (cc := cc) (maxL := nL) (ret := ret) hy rfl ?_
  intro p e s m args below meth c s₁ B hml hv
  obtain ⟨rfl, hsz, hP, hK, hD0, hN⟩ := hv
  have hts := atoms_spec (ws := Cond.code y cc nL ret :: gx_F) B.pre
  have hown : s.vm.findClass y.cls = some m.cls := findClass_of_methodNamed B.named
  have hnm : meth.name = y.name := (name_of_methodNamed B.named B.method).1
  subst hsz
  have hD := hD0.self (sz := s.heap.size)
  generalize hAe : va_A ws s.heap.size = A at hD ⊢
  have hA : ∀ q : Nat, s.heap.size ≤ q → A q := fun q h => by rw [← hAe]; exact Or.inr h
  have hl := lv_entry av (n := nL) hlen
  rw [lg_entry_eq]
  generalize (lg_sl av ++ List.replicate (nL - (lg_sl av).length) Slot.unset).toArray = ls at hl ⊢
  exact body (p, l, e, gx_rm d mc ms, s, m, av.toArray, below, meth, c, A) ⟨B.exec, B.bytes, B.returns, B.notSynchronized, hml, hown, hnm, fun w hw => hts w (List.mem_cons_of_mem _ hw), hN, hK, hA, Nat.le_refl _, Nat.le_refl _⟩ rfl rfl s.heap [] ls hP hD va_S.rf hl
section GX
variable {K : gx_K} {D : va_G} {dA : Nat → ClassId} {y : MethodName} {cc : ByteArray} {nL : Nat} {ret : Option FieldType} {d k n pc : Nat} {lv : List (Nat × Value)} {st : List Value} {ws : va_W} {Z : State → Prop}
theorem gx_iconst (C : gx_C K D dA y cc nL ret d) {i : Int} {v : Int32} (hd : decode cc pc = .ok (.iconst i, 1)) (hv : Int32.ofInt i = v := by rfl) (kk : gx_G K D nL k n (pc + 1) lv (.int v :: st) ws Z) : gx_G K D nL k n pc lv st ws Z := by
  obtain ⟨p, l, e, R, s, m, args, below, meth, c, A⟩ := K
  obtain ⟨hx, hb, hr, hlk, hml, hown, hnm, hts, hN, hK, hA, hR1, hR2⟩ := C
  intro H locs ls hP hD hS hl
  exact lv_iconst hx hb hd hv (kk H locs ls hP hD hS hl)
theorem gx_bipush (C : gx_C K D dA y cc nL ret d) {i : Int} {v : Int32} (hd : decode cc pc = .ok (.bipush i, 2)) (hv : (Int8.ofInt i).toInt32 = v := by rfl) (kk : gx_G K D nL k n (pc + 2) lv (.int v :: st) ws Z) : gx_G K D nL k n pc lv st ws Z := by
  obtain ⟨p, l, e, R, s, m, args, below, meth, c, A⟩ := K
  obtain ⟨hx, hb, hr, hlk, hml, hown, hnm, hts, hN, hK, hA, hR1, hR2⟩ := C
  intro H locs ls hP hD hS hl
  exact lv_bipush hx hb hd hv (kk H locs ls hP hD hS hl)
theorem gx_sipush (C : gx_C K D dA y cc nL ret d) {i : Int} {v : Int32} (hd : decode cc pc = .ok (.sipush i, 3)) (hv : (Int16.ofInt i).toInt32 = v := by rfl) (kk : gx_G K D nL k n (pc + 3) lv (.int v :: st) ws Z) : gx_G K D nL k n pc lv st ws Z := by
  obtain ⟨p, l, e, R, s, m, args, below, meth, c, A⟩ := K
  obtain ⟨hx, hb, hr, hlk, hml, hown, hnm, hts, hN, hK, hA, hR1, hR2⟩ := C
  intro H locs ls hP hD hS hl
  exact lv_sipush hx hb hd hv (kk H locs ls hP hD hS hl)
theorem gx_lconst (C : gx_C K D dA y cc nL ret d) {i : Fin 2} {v : Int64} (hd : decode cc pc = .ok (.lconst i, 1)) (hv : Int64.ofNat (i : Nat) = v := by rfl) (kk : gx_G K D nL k n (pc + 1) lv (.long v :: st) ws Z) : gx_G K D nL k n pc lv st ws Z := by
  obtain ⟨p, l, e, R, s, m, args, below, meth, c, A⟩ := K
  obtain ⟨hx, hb, hr, hlk, hml, hown, hnm, hts, hN, hK, hA, hR1, hR2⟩ := C
  intro H locs ls hP hD hS hl
  exact lv_lconst hx hb hd hv (kk H locs ls hP hD hS hl)
theorem gx_ldc (C : gx_C K D dA y cc nL ret d) {i : Nat} {v : Int32} (hd : decode cc pc = .ok (.ldc i, 2)) (hw : Cond.constant y.cls i v ∈ gx_F) (kk : gx_G K D nL k n (pc + 2) lv (.int v :: st) ws Z) : gx_G K D nL k n pc lv st ws Z := by
  obtain ⟨p, l, e, R, s, m, args, below, meth, c, A⟩ := K
  obtain ⟨hx, hb, hr, hlk, hml, hown, hnm, hts, hN, hK, hA, hR1, hR2⟩ := C
  intro H locs ls hP hD hS hl
  exact lv_ldc hx hb hown (hts _ hw) hd (kk H locs ls hP hD hS hl)
theorem gx_ldcw (C : gx_C K D dA y cc nL ret d) {i : Nat} {v : Int32} (hd : decode cc pc = .ok (.ldc_w i, 3)) (hw : Cond.constant y.cls i v ∈ gx_F) (kk : gx_G K D nL k n (pc + 3) lv (.int v :: st) ws Z) : gx_G K D nL k n pc lv st ws Z := by
  obtain ⟨p, l, e, R, s, m, args, below, meth, c, A⟩ := K
  obtain ⟨hx, hb, hr, hlk, hml, hown, hnm, hts, hN, hK, hA, hR1, hR2⟩ := C
  intro H locs ls hP hD hS hl
  exact lv_ldcw hx hb hown (hts _ hw) hd (kk H locs ls hP hD hS hl)
theorem gx_ldc2 (C : gx_C K D dA y cc nL ret d) {i : Nat} {v : Int64} (hd : decode cc pc = .ok (.ldc2_w i, 3)) (hw : Cond.constantLong y.cls i v ∈ gx_F) (kk : gx_G K D nL k n (pc + 3) lv (.long v :: st) ws Z) : gx_G K D nL k n pc lv st ws Z := by
  obtain ⟨p, l, e, R, s, m, args, below, meth, c, A⟩ := K
  obtain ⟨hx, hb, hr, hlk, hml, hown, hnm, hts, hN, hK, hA, hR1, hR2⟩ := C
  intro H locs ls hP hD hS hl
  exact lv_ldc2 hx hb hown (hts _ hw) hd (kk H locs ls hP hD hS hl)
theorem gx_iload_n (C : gx_C K D dA y cc nL ret d) {j : Fin 4} (q : Nat) {i : Nat} {x : Int32} (hd : decode cc pc = .ok (.iload_n j, 1)) (hi : (j : Nat) = i := by rfl) (hq : lv[q]? = some (i, .int x) := by rfl) (kk : gx_G K D nL k n (pc + 1) lv (.int x :: st) ws Z) : gx_G K D nL k n pc lv st ws Z := by
  obtain ⟨p, l, e, R, s, m, args, below, meth, c, A⟩ := K
  obtain ⟨hx, hb, hr, hlk, hml, hown, hnm, hts, hN, hK, hA, hR1, hR2⟩ := C
  intro H locs ls hP hD hS hl
  exact lv_iload_n hx hb hd hi (lv_at hl q hq) (kk H locs ls hP hD hS hl)
theorem gx_iload (C : gx_C K D dA y cc nL ret d) (q : Nat) {i : Nat} {x : Int32} (hd : decode cc pc = .ok (.iload i, 2)) (hq : lv[q]? = some (i, .int x) := by rfl) (kk : gx_G K D nL k n (pc + 2) lv (.int x :: st) ws Z) : gx_G K D nL k n pc lv st ws Z := by
  obtain ⟨p, l, e, R, s, m, args, below, meth, c, A⟩ := K
  obtain ⟨hx, hb, hr, hlk, hml, hown, hnm, hts, hN, hK, hA, hR1, hR2⟩ := C
  intro H locs ls hP hD hS hl
  exact lv_iload hx hb hd (lv_at hl q hq) (kk H locs ls hP hD hS hl)
theorem gx_istore_n (C : gx_C K D dA y cc nL ret d) {j : Fin 4} {i : Nat} {x : Int32} (lv' : List (Nat × Value)) (hd : decode cc pc = .ok (.istore_n j, 1)) (hi : (j : Nat) = i := by rfl) (hn : i < nL := by decide) (hf : (i, Value.int x) :: lv.filter (fun q => !(q.1 == i) && !(q.1 + 1 == i && q.2.category == 2)) = lv' := by rfl) (kk : gx_G K D nL k n (pc + 1) lv' st ws Z) : gx_G K D nL k n pc lv (.int x :: st) ws Z := by
  obtain ⟨p, l, e, R, s, m, args, below, meth, c, A⟩ := K
  obtain ⟨hx, hb, hr, hlk, hml, hown, hnm, hts, hN, hK, hA, hR1, hR2⟩ := C
  intro H locs ls hP hD hS hl
  exact lv_istore_n hx hb hd hi hl hn hf (fun ls' hl' => kk H locs ls' hP hD hS hl')
theorem gx_istore (C : gx_C K D dA y cc nL ret d) {i : Nat} {x : Int32} (lv' : List (Nat × Value)) (hd : decode cc pc = .ok (.istore i, 2)) (hn : i < nL := by decide) (hf : (i, Value.int x) :: lv.filter (fun q => !(q.1 == i) && !(q.1 + 1 == i && q.2.category == 2)) = lv' := by rfl) (kk : gx_G K D nL k n (pc + 2) lv' st ws Z) : gx_G K D nL k n pc lv (.int x :: st) ws Z := by
  obtain ⟨p, l, e, R, s, m, args, below, meth, c, A⟩ := K
  obtain ⟨hx, hb, hr, hlk, hml, hown, hnm, hts, hN, hK, hA, hR1, hR2⟩ := C
  intro H locs ls hP hD hS hl
  exact lv_istore hx hb hd hl hn hf (fun ls' hl' => kk H locs ls' hP hD hS hl')
theorem gx_lload_n (C : gx_C K D dA y cc nL ret d) {j : Fin 4} (q : Nat) {i : Nat} {x : Int64} (hd : decode cc pc = .ok (.lload_n j, 1)) (hi : (j : Nat) = i := by rfl) (hq : lv[q]? = some (i, .long x) := by rfl) (kk : gx_G K D nL k n (pc + 1) lv (.long x :: st) ws Z) : gx_G K D nL k n pc lv st ws Z := by
  obtain ⟨p, l, e, R, s, m, args, below, meth, c, A⟩ := K
  obtain ⟨hx, hb, hr, hlk, hml, hown, hnm, hts, hN, hK, hA, hR1, hR2⟩ := C
  intro H locs ls hP hD hS hl
  exact lv_lload_n hx hb hd hi (lv_at hl q hq) (kk H locs ls hP hD hS hl)
theorem gx_lload (C : gx_C K D dA y cc nL ret d) (q : Nat) {i : Nat} {x : Int64} (hd : decode cc pc = .ok (.lload i, 2)) (hq : lv[q]? = some (i, .long x) := by rfl) (kk : gx_G K D nL k n (pc + 2) lv (.long x :: st) ws Z) : gx_G K D nL k n pc lv st ws Z := by
  obtain ⟨p, l, e, R, s, m, args, below, meth, c, A⟩ := K
  obtain ⟨hx, hb, hr, hlk, hml, hown, hnm, hts, hN, hK, hA, hR1, hR2⟩ := C
  intro H locs ls hP hD hS hl
  exact lv_lload hx hb hd (lv_at hl q hq) (kk H locs ls hP hD hS hl)
theorem gx_lstore_n (C : gx_C K D dA y cc nL ret d) {j : Fin 4} {i : Nat} {x : Int64} (lv' : List (Nat × Value)) (hd : decode cc pc = .ok (.lstore_n j, 1)) (hi : (j : Nat) = i := by rfl) (hn : i + 1 < nL := by decide) (hf : (i, Value.long x) :: lv.filter (fun q => !(q.1 == i) && (!(q.1 == i + 1) && !(q.1 + 1 == i && q.2.category == 2))) = lv' := by rfl) (kk : gx_G K D nL k n (pc + 1) lv' st ws Z) : gx_G K D nL k n pc lv (.long x :: st) ws Z := by
  obtain ⟨p, l, e, R, s, m, args, below, meth, c, A⟩ := K
  obtain ⟨hx, hb, hr, hlk, hml, hown, hnm, hts, hN, hK, hA, hR1, hR2⟩ := C
  intro H locs ls hP hD hS hl
  exact lv_lstore_n hx hb hd hi hl hn hf (fun ls' hl' => kk H locs ls' hP hD hS hl')
theorem gx_lstore (C : gx_C K D dA y cc nL ret d) {i : Nat} {x : Int64} (lv' : List (Nat × Value)) (hd : decode cc pc = .ok (.lstore i, 2)) (hn : i + 1 < nL := by decide) (hf : (i, Value.long x) :: lv.filter (fun q => !(q.1 == i) && (!(q.1 == i + 1) && !(q.1 + 1 == i && q.2.category == 2))) = lv' := by rfl) (kk : gx_G K D nL k n (pc + 2) lv' st ws Z) : gx_G K D nL k n pc lv (.long x :: st) ws Z := by
  obtain ⟨p, l, e, R, s, m, args, below, meth, c, A⟩ := K
  obtain ⟨hx, hb, hr, hlk, hml, hown, hnm, hts, hN, hK, hA, hR1, hR2⟩ := C
  intro H locs ls hP hD hS hl
  exact lv_lstore hx hb hd hl hn hf (fun ls' hl' => kk H locs ls' hP hD hS hl')
theorem gx_aload_n (C : gx_C K D dA y cc nL ret d) {j : Fin 4} (q : Nat) {i : Nat} {x : Nat} (hd : decode cc pc = .ok (.aload_n j, 1)) (hi : (j : Nat) = i := by rfl) (hq : lv[q]? = some (i, .ref x) := by rfl) (kk : gx_G K D nL k n (pc + 1) lv (.ref x :: st) ws Z) : gx_G K D nL k n pc lv st ws Z := by
  obtain ⟨p, l, e, R, s, m, args, below, meth, c, A⟩ := K
  obtain ⟨hx, hb, hr, hlk, hml, hown, hnm, hts, hN, hK, hA, hR1, hR2⟩ := C
  intro H locs ls hP hD hS hl
  exact lv_aload_n hx hb hd hi (lv_at hl q hq) (kk H locs ls hP hD hS hl)
theorem gx_aload (C : gx_C K D dA y cc nL ret d) (q : Nat) {i : Nat} {x : Nat} (hd : decode cc pc = .ok (.aload i, 2)) (hq : lv[q]? = some (i, .ref x) := by rfl) (kk : gx_G K D nL k n (pc + 2) lv (.ref x :: st) ws Z) : gx_G K D nL k n pc lv st ws Z := by
  obtain ⟨p, l, e, R, s, m, args, below, meth, c, A⟩ := K
  obtain ⟨hx, hb, hr, hlk, hml, hown, hnm, hts, hN, hK, hA, hR1, hR2⟩ := C
  intro H locs ls hP hD hS hl
  exact lv_aload hx hb hd (lv_at hl q hq) (kk H locs ls hP hD hS hl)
theorem gx_astore_n (C : gx_C K D dA y cc nL ret d) {j : Fin 4} {i : Nat} {x : Nat} (lv' : List (Nat × Value)) (hd : decode cc pc = .ok (.astore_n j, 1)) (hi : (j : Nat) = i := by rfl) (hn : i < nL := by decide) (hf : (i, Value.ref x) :: lv.filter (fun q => !(q.1 == i) && !(q.1 + 1 == i && q.2.category == 2)) = lv' := by rfl) (kk : gx_G K D nL k n (pc + 1) lv' st ws Z) : gx_G K D nL k n pc lv (.ref x :: st) ws Z := by
  obtain ⟨p, l, e, R, s, m, args, below, meth, c, A⟩ := K
  obtain ⟨hx, hb, hr, hlk, hml, hown, hnm, hts, hN, hK, hA, hR1, hR2⟩ := C
  intro H locs ls hP hD hS hl
  exact lv_astore_n hx hb hd hi hl hn hf (fun ls' hl' => kk H locs ls' hP hD hS hl')
theorem gx_astore (C : gx_C K D dA y cc nL ret d) {i : Nat} {x : Nat} (lv' : List (Nat × Value)) (hd : decode cc pc = .ok (.astore i, 2)) (hn : i < nL := by decide) (hf : (i, Value.ref x) :: lv.filter (fun q => !(q.1 == i) && !(q.1 + 1 == i && q.2.category == 2)) = lv' := by rfl) (kk : gx_G K D nL k n (pc + 2) lv' st ws Z) : gx_G K D nL k n pc lv (.ref x :: st) ws Z := by
  obtain ⟨p, l, e, R, s, m, args, below, meth, c, A⟩ := K
  obtain ⟨hx, hb, hr, hlk, hml, hown, hnm, hts, hN, hK, hA, hR1, hR2⟩ := C
  intro H locs ls hP hD hS hl
  exact lv_astore hx hb hd hl hn hf (fun ls' hl' => kk H locs ls' hP hD hS hl')
theorem gx_iinc (C : gx_C K D dA y cc nL ret d) (q : Nat) {i : Nat} {j : Int} {x : Int32} (v : Int32) (lv' : List (Nat × Value)) (hd : decode cc pc = .ok (.iinc i j, 3)) (hv : x + Int32.ofInt j = v) (hq : lv[q]? = some (i, .int x) := by rfl) (hn : i < nL := by decide) (hf : (i, Value.int v) :: lv.filter (fun q => !(q.1 == i) && !(q.1 + 1 == i && q.2.category == 2)) = lv' := by rfl) (kk : gx_G K D nL k n (pc + 3) lv' st ws Z) : gx_G K D nL k n pc lv st ws Z := by
  obtain ⟨p, l, e, R, s, m, args, below, meth, c, A⟩ := K
  obtain ⟨hx, hb, hr, hlk, hml, hown, hnm, hts, hN, hK, hA, hR1, hR2⟩ := C
  intro H locs ls hP hD hS hl
  exact lv_iinc hx hb hd hl hq hv hn hf (fun ls' hl' => kk H locs ls' hP hD hS hl')
theorem gx_iadd (C : gx_C K D dA y cc nL ret d) {u v : Int32} (hd : decode cc pc = .ok (.iadd, 1))  (kk : gx_G K D nL k n (pc + 1) lv (.int (u + v) :: st) ws Z) : gx_G K D nL k n pc lv (.int v :: .int u :: st) ws Z := by
  obtain ⟨p, l, e, R, s, m, args, below, meth, c, A⟩ := K
  obtain ⟨hx, hb, hr, hlk, hml, hown, hnm, hts, hN, hK, hA, hR1, hR2⟩ := C
  intro H locs ls hP hD hS hl
  exact lv_iadd hx hb hd  (kk H locs ls hP hD hS hl)
theorem gx_isub (C : gx_C K D dA y cc nL ret d) {u v : Int32} (hd : decode cc pc = .ok (.isub, 1))  (kk : gx_G K D nL k n (pc + 1) lv (.int (u - v) :: st) ws Z) : gx_G K D nL k n pc lv (.int v :: .int u :: st) ws Z := by
  obtain ⟨p, l, e, R, s, m, args, below, meth, c, A⟩ := K
  obtain ⟨hx, hb, hr, hlk, hml, hown, hnm, hts, hN, hK, hA, hR1, hR2⟩ := C
  intro H locs ls hP hD hS hl
  exact lv_isub hx hb hd  (kk H locs ls hP hD hS hl)
theorem gx_imul (C : gx_C K D dA y cc nL ret d) {u v : Int32} (hd : decode cc pc = .ok (.imul, 1))  (kk : gx_G K D nL k n (pc + 1) lv (.int (u * v) :: st) ws Z) : gx_G K D nL k n pc lv (.int v :: .int u :: st) ws Z := by
  obtain ⟨p, l, e, R, s, m, args, below, meth, c, A⟩ := K
  obtain ⟨hx, hb, hr, hlk, hml, hown, hnm, hts, hN, hK, hA, hR1, hR2⟩ := C
  intro H locs ls hP hD hS hl
  exact lv_imul hx hb hd  (kk H locs ls hP hD hS hl)
theorem gx_iand (C : gx_C K D dA y cc nL ret d) {u v : Int32} (hd : decode cc pc = .ok (.iand, 1))  (kk : gx_G K D nL k n (pc + 1) lv (.int (u &&& v) :: st) ws Z) : gx_G K D nL k n pc lv (.int v :: .int u :: st) ws Z := by
  obtain ⟨p, l, e, R, s, m, args, below, meth, c, A⟩ := K
  obtain ⟨hx, hb, hr, hlk, hml, hown, hnm, hts, hN, hK, hA, hR1, hR2⟩ := C
  intro H locs ls hP hD hS hl
  exact lv_iand hx hb hd  (kk H locs ls hP hD hS hl)
theorem gx_ior (C : gx_C K D dA y cc nL ret d) {u v : Int32} (hd : decode cc pc = .ok (.ior, 1))  (kk : gx_G K D nL k n (pc + 1) lv (.int (u ||| v) :: st) ws Z) : gx_G K D nL k n pc lv (.int v :: .int u :: st) ws Z := by
  obtain ⟨p, l, e, R, s, m, args, below, meth, c, A⟩ := K
  obtain ⟨hx, hb, hr, hlk, hml, hown, hnm, hts, hN, hK, hA, hR1, hR2⟩ := C
  intro H locs ls hP hD hS hl
  exact lv_ior hx hb hd  (kk H locs ls hP hD hS hl)
theorem gx_ixor (C : gx_C K D dA y cc nL ret d) {u v : Int32} (hd : decode cc pc = .ok (.ixor, 1))  (kk : gx_G K D nL k n (pc + 1) lv (.int (u ^^^ v) :: st) ws Z) : gx_G K D nL k n pc lv (.int v :: .int u :: st) ws Z := by
  obtain ⟨p, l, e, R, s, m, args, below, meth, c, A⟩ := K
  obtain ⟨hx, hb, hr, hlk, hml, hown, hnm, hts, hN, hK, hA, hR1, hR2⟩ := C
  intro H locs ls hP hD hS hl
  exact lv_ixor hx hb hd  (kk H locs ls hP hD hS hl)
theorem gx_idiv (C : gx_C K D dA y cc nL ret d) {u v : Int32} (hd : decode cc pc = .ok (.idiv, 1)) (hne : ¬ v = 0 := by decide) (kk : gx_G K D nL k n (pc + 1) lv (.int (u / v) :: st) ws Z) : gx_G K D nL k n pc lv (.int v :: .int u :: st) ws Z := by
  obtain ⟨p, l, e, R, s, m, args, below, meth, c, A⟩ := K
  obtain ⟨hx, hb, hr, hlk, hml, hown, hnm, hts, hN, hK, hA, hR1, hR2⟩ := C
  intro H locs ls hP hD hS hl
  exact lv_idiv hx hb hd hne (kk H locs ls hP hD hS hl)
theorem gx_irem (C : gx_C K D dA y cc nL ret d) {u v : Int32} (hd : decode cc pc = .ok (.irem, 1)) (hne : ¬ v = 0 := by decide) (kk : gx_G K D nL k n (pc + 1) lv (.int (u - u / v * v) :: st) ws Z) : gx_G K D nL k n pc lv (.int v :: .int u :: st) ws Z := by
  obtain ⟨p, l, e, R, s, m, args, below, meth, c, A⟩ := K
  obtain ⟨hx, hb, hr, hlk, hml, hown, hnm, hts, hN, hK, hA, hR1, hR2⟩ := C
  intro H locs ls hP hD hS hl
  exact lv_irem hx hb hd hne (kk H locs ls hP hD hS hl)
theorem gx_ladd (C : gx_C K D dA y cc nL ret d) {u v : Int64} (hd : decode cc pc = .ok (.ladd, 1))  (kk : gx_G K D nL k n (pc + 1) lv (.long (u + v) :: st) ws Z) : gx_G K D nL k n pc lv (.long v :: .long u :: st) ws Z := by
  obtain ⟨p, l, e, R, s, m, args, below, meth, c, A⟩ := K
  obtain ⟨hx, hb, hr, hlk, hml, hown, hnm, hts, hN, hK, hA, hR1, hR2⟩ := C
  intro H locs ls hP hD hS hl
  exact lv_ladd hx hb hd  (kk H locs ls hP hD hS hl)
theorem gx_lsub (C : gx_C K D dA y cc nL ret d) {u v : Int64} (hd : decode cc pc = .ok (.lsub, 1))  (kk : gx_G K D nL k n (pc + 1) lv (.long (u - v) :: st) ws Z) : gx_G K D nL k n pc lv (.long v :: .long u :: st) ws Z := by
  obtain ⟨p, l, e, R, s, m, args, below, meth, c, A⟩ := K
  obtain ⟨hx, hb, hr, hlk, hml, hown, hnm, hts, hN, hK, hA, hR1, hR2⟩ := C
  intro H locs ls hP hD hS hl
  exact lv_lsub hx hb hd  (kk H locs ls hP hD hS hl)
theorem gx_lmul (C : gx_C K D dA y cc nL ret d) {u v : Int64} (hd : decode cc pc = .ok (.lmul, 1))  (kk : gx_G K D nL k n (pc + 1) lv (.long (u * v) :: st) ws Z) : gx_G K D nL k n pc lv (.long v :: .long u :: st) ws Z := by
  obtain ⟨p, l, e, R, s, m, args, below, meth, c, A⟩ := K
  obtain ⟨hx, hb, hr, hlk, hml, hown, hnm, hts, hN, hK, hA, hR1, hR2⟩ := C
  intro H locs ls hP hD hS hl
  exact lv_lmul hx hb hd  (kk H locs ls hP hD hS hl)
theorem gx_land (C : gx_C K D dA y cc nL ret d) {u v : Int64} (hd : decode cc pc = .ok (.land, 1))  (kk : gx_G K D nL k n (pc + 1) lv (.long (u &&& v) :: st) ws Z) : gx_G K D nL k n pc lv (.long v :: .long u :: st) ws Z := by
  obtain ⟨p, l, e, R, s, m, args, below, meth, c, A⟩ := K
  obtain ⟨hx, hb, hr, hlk, hml, hown, hnm, hts, hN, hK, hA, hR1, hR2⟩ := C
  intro H locs ls hP hD hS hl
  exact lv_land hx hb hd  (kk H locs ls hP hD hS hl)
theorem gx_lor (C : gx_C K D dA y cc nL ret d) {u v : Int64} (hd : decode cc pc = .ok (.lor, 1))  (kk : gx_G K D nL k n (pc + 1) lv (.long (u ||| v) :: st) ws Z) : gx_G K D nL k n pc lv (.long v :: .long u :: st) ws Z := by
  obtain ⟨p, l, e, R, s, m, args, below, meth, c, A⟩ := K
  obtain ⟨hx, hb, hr, hlk, hml, hown, hnm, hts, hN, hK, hA, hR1, hR2⟩ := C
  intro H locs ls hP hD hS hl
  exact lv_lor hx hb hd  (kk H locs ls hP hD hS hl)
theorem gx_lxor (C : gx_C K D dA y cc nL ret d) {u v : Int64} (hd : decode cc pc = .ok (.lxor, 1))  (kk : gx_G K D nL k n (pc + 1) lv (.long (u ^^^ v) :: st) ws Z) : gx_G K D nL k n pc lv (.long v :: .long u :: st) ws Z := by
  obtain ⟨p, l, e, R, s, m, args, below, meth, c, A⟩ := K
  obtain ⟨hx, hb, hr, hlk, hml, hown, hnm, hts, hN, hK, hA, hR1, hR2⟩ := C
  intro H locs ls hP hD hS hl
  exact lv_lxor hx hb hd  (kk H locs ls hP hD hS hl)
theorem gx_ldiv (C : gx_C K D dA y cc nL ret d) {u v : Int64} (hd : decode cc pc = .ok (.ldiv, 1)) (hne : ¬ v = 0 := by decide) (kk : gx_G K D nL k n (pc + 1) lv (.long (u / v) :: st) ws Z) : gx_G K D nL k n pc lv (.long v :: .long u :: st) ws Z := by
  obtain ⟨p, l, e, R, s, m, args, below, meth, c, A⟩ := K
  obtain ⟨hx, hb, hr, hlk, hml, hown, hnm, hts, hN, hK, hA, hR1, hR2⟩ := C
  intro H locs ls hP hD hS hl
  exact lv_ldiv hx hb hd hne (kk H locs ls hP hD hS hl)
theorem gx_lrem (C : gx_C K D dA y cc nL ret d) {u v : Int64} (hd : decode cc pc = .ok (.lrem, 1)) (hne : ¬ v = 0 := by decide) (kk : gx_G K D nL k n (pc + 1) lv (.long (u - u / v * v) :: st) ws Z) : gx_G K D nL k n pc lv (.long v :: .long u :: st) ws Z := by
  obtain ⟨p, l, e, R, s, m, args, below, meth, c, A⟩ := K
  obtain ⟨hx, hb, hr, hlk, hml, hown, hnm, hts, hN, hK, hA, hR1, hR2⟩ := C
  intro H locs ls hP hD hS hl
  exact lv_lrem hx hb hd hne (kk H locs ls hP hD hS hl)
theorem gx_ishl (C : gx_C K D dA y cc nL ret d) {u v : Int32} (hd : decode cc pc = .ok (.ishl, 1))  (kk : gx_G K D nL k n (pc + 1) lv (.int (u <<< (v &&& 31)) :: st) ws Z) : gx_G K D nL k n pc lv (.int v :: .int u :: st) ws Z := by
  obtain ⟨p, l, e, R, s, m, args, below, meth, c, A⟩ := K
  obtain ⟨hx, hb, hr, hlk, hml, hown, hnm, hts, hN, hK, hA, hR1, hR2⟩ := C
  intro H locs ls hP hD hS hl
  exact lv_ishl hx hb hd  (kk H locs ls hP hD hS hl)
theorem gx_ishr (C : gx_C K D dA y cc nL ret d) {u v : Int32} (hd : decode cc pc = .ok (.ishr, 1))  (kk : gx_G K D nL k n (pc + 1) lv (.int (u >>> (v &&& 31)) :: st) ws Z) : gx_G K D nL k n pc lv (.int v :: .int u :: st) ws Z := by
  obtain ⟨p, l, e, R, s, m, args, below, meth, c, A⟩ := K
  obtain ⟨hx, hb, hr, hlk, hml, hown, hnm, hts, hN, hK, hA, hR1, hR2⟩ := C
  intro H locs ls hP hD hS hl
  exact lv_ishr hx hb hd  (kk H locs ls hP hD hS hl)
theorem gx_iushr (C : gx_C K D dA y cc nL ret d) {u v w : Int32} (hd : decode cc pc = .ok (.iushr, 1)) (hv : (u.toUInt32 >>> (v.toUInt32 &&& Int32.toUInt32 31)).toInt32 = w := by rfl) (kk : gx_G K D nL k n (pc + 1) lv (.int w :: st) ws Z) : gx_G K D nL k n pc lv (.int v :: .int u :: st) ws Z := by
  obtain ⟨p, l, e, R, s, m, args, below, meth, c, A⟩ := K
  obtain ⟨hx, hb, hr, hlk, hml, hown, hnm, hts, hN, hK, hA, hR1, hR2⟩ := C
  intro H locs ls hP hD hS hl
  exact lv_iushr hx hb hd hv (kk H locs ls hP hD hS hl)
theorem gx_lshl (C : gx_C K D dA y cc nL ret d) {u w : Int64} {v : Int32} (hd : decode cc pc = .ok (.lshl, 1)) (hv : u <<< (v.toInt64 &&& 63) = w := by rfl) (kk : gx_G K D nL k n (pc + 1) lv (.long w :: st) ws Z) : gx_G K D nL k n pc lv (.int v :: .long u :: st) ws Z := by
  obtain ⟨p, l, e, R, s, m, args, below, meth, c, A⟩ := K
  obtain ⟨hx, hb, hr, hlk, hml, hown, hnm, hts, hN, hK, hA, hR1, hR2⟩ := C
  intro H locs ls hP hD hS hl
  exact lv_lshl hx hb hd hv (kk H locs ls hP hD hS hl)
theorem gx_lshr (C : gx_C K D dA y cc nL ret d) {u w : Int64} {v : Int32} (hd : decode cc pc = .ok (.lshr, 1)) (hv : u >>> (v.toInt64 &&& 63) = w := by rfl) (kk : gx_G K D nL k n (pc + 1) lv (.long w :: st) ws Z) : gx_G K D nL k n pc lv (.int v :: .long u :: st) ws Z := by
  obtain ⟨p, l, e, R, s, m, args, below, meth, c, A⟩ := K
  obtain ⟨hx, hb, hr, hlk, hml, hown, hnm, hts, hN, hK, hA, hR1, hR2⟩ := C
  intro H locs ls hP hD hS hl
  exact lv_lshr hx hb hd hv (kk H locs ls hP hD hS hl)
theorem gx_ineg (C : gx_C K D dA y cc nL ret d) {u : Int32} (hd : decode cc pc = .ok (.ineg, 1))  (kk : gx_G K D nL k n (pc + 1) lv (.int (-u) :: st) ws Z) : gx_G K D nL k n pc lv (.int u :: st) ws Z := by
  obtain ⟨p, l, e, R, s, m, args, below, meth, c, A⟩ := K
  obtain ⟨hx, hb, hr, hlk, hml, hown, hnm, hts, hN, hK, hA, hR1, hR2⟩ := C
  intro H locs ls hP hD hS hl
  exact lv_ineg hx hb hd (kk H locs ls hP hD hS hl)
theorem gx_i2l (C : gx_C K D dA y cc nL ret d) {u : Int32} {w : Int64} (hd : decode cc pc = .ok (.i2l, 1)) (hv : u.toInt64 = w := by rfl) (kk : gx_G K D nL k n (pc + 1) lv (.long w :: st) ws Z) : gx_G K D nL k n pc lv (.int u :: st) ws Z := by
  obtain ⟨p, l, e, R, s, m, args, below, meth, c, A⟩ := K
  obtain ⟨hx, hb, hr, hlk, hml, hown, hnm, hts, hN, hK, hA, hR1, hR2⟩ := C
  intro H locs ls hP hD hS hl
  exact lv_i2l hx hb hd hv (kk H locs ls hP hD hS hl)
theorem gx_l2i (C : gx_C K D dA y cc nL ret d) {u : Int64} {w : Int32} (hd : decode cc pc = .ok (.l2i, 1)) (hv : u.toInt32 = w := by rfl) (kk : gx_G K D nL k n (pc + 1) lv (.int w :: st) ws Z) : gx_G K D nL k n pc lv (.long u :: st) ws Z := by
  obtain ⟨p, l, e, R, s, m, args, below, meth, c, A⟩ := K
  obtain ⟨hx, hb, hr, hlk, hml, hown, hnm, hts, hN, hK, hA, hR1, hR2⟩ := C
  intro H locs ls hP hD hS hl
  exact lv_l2i hx hb hd hv (kk H locs ls hP hD hS hl)
theorem gx_i2c (C : gx_C K D dA y cc nL ret d) {u w : Int32} (hd : decode cc pc = .ok (.i2c, 1)) (hv : (u.toUInt32 % 65536).toInt32 = w := by rfl) (kk : gx_G K D nL k n (pc + 1) lv (.int w :: st) ws Z) : gx_G K D nL k n pc lv (.int u :: st) ws Z := by
  obtain ⟨p, l, e, R, s, m, args, below, meth, c, A⟩ := K
  obtain ⟨hx, hb, hr, hlk, hml, hown, hnm, hts, hN, hK, hA, hR1, hR2⟩ := C
  intro H locs ls hP hD hS hl
  exact lv_i2c hx hb hd hv (kk H locs ls hP hD hS hl)
theorem gx_lcmp (C : gx_C K D dA y cc nL ret d) {u v : Int64} (hd : decode cc pc = .ok (.lcmp, 1))  (kk : gx_G K D nL k n (pc + 1) lv (.int (lg_cmp u v) :: st) ws Z) : gx_G K D nL k n pc lv (.long v :: .long u :: st) ws Z := by
  obtain ⟨p, l, e, R, s, m, args, below, meth, c, A⟩ := K
  obtain ⟨hx, hb, hr, hlk, hml, hown, hnm, hts, hN, hK, hA, hR1, hR2⟩ := C
  intro H locs ls hP hD hS hl
  exact W.lcmp hx hb hd (kk H locs ls hP hD hS hl)
theorem gx_dup (C : gx_C K D dA y cc nL ret d) {a : Value} (hd : decode cc pc = .ok (.dup, 1)) (ha : a.category = 1 := by rfl) (kk : gx_G K D nL k n (pc + 1) lv (a :: a :: st) ws Z) : gx_G K D nL k n pc lv (a :: st) ws Z := by
  obtain ⟨p, l, e, R, s, m, args, below, meth, c, A⟩ := K
  obtain ⟨hx, hb, hr, hlk, hml, hown, hnm, hts, hN, hK, hA, hR1, hR2⟩ := C
  intro H locs ls hP hD hS hl
  exact lv_dup hx hb hd ha (kk H locs ls hP hD hS hl)
theorem gx_dup_x1 (C : gx_C K D dA y cc nL ret d) {a b : Value} (hd : decode cc pc = .ok (.dup_x1, 1)) (ha : a.category = 1 := by rfl) (hb1 : b.category = 1 := by rfl) (kk : gx_G K D nL k n (pc + 1) lv (a :: b :: a :: st) ws Z) : gx_G K D nL k n pc lv (a :: b :: st) ws Z := by
  obtain ⟨p, l, e, R, s, m, args, below, meth, c, A⟩ := K
  obtain ⟨hx, hb, hr, hlk, hml, hown, hnm, hts, hN, hK, hA, hR1, hR2⟩ := C
  intro H locs ls hP hD hS hl
  exact lv_dup_x1 hx hb hd ha hb1 (kk H locs ls hP hD hS hl)
theorem gx_dup2_11 (C : gx_C K D dA y cc nL ret d) {a b : Value} (hd : decode cc pc = .ok (.dup2, 1)) (ha : a.category = 1 := by rfl) (hb1 : b.category = 1 := by rfl) (kk : gx_G K D nL k n (pc + 1) lv (a :: b :: a :: b :: st) ws Z) : gx_G K D nL k n pc lv (a :: b :: st) ws Z := by
  obtain ⟨p, l, e, R, s, m, args, below, meth, c, A⟩ := K
  obtain ⟨hx, hb, hr, hlk, hml, hown, hnm, hts, hN, hK, hA, hR1, hR2⟩ := C
  intro H locs ls hP hD hS hl
  exact lv_dup2_11 hx hb hd ha hb1 (kk H locs ls hP hD hS hl)
theorem gx_dup2_2 (C : gx_C K D dA y cc nL ret d) {a : Value} (hd : decode cc pc = .ok (.dup2, 1)) (ha : a.category = 2 := by rfl) (kk : gx_G K D nL k n (pc + 1) lv (a :: a :: st) ws Z) : gx_G K D nL k n pc lv (a :: st) ws Z := by
  obtain ⟨p, l, e, R, s, m, args, below, meth, c, A⟩ := K
  obtain ⟨hx, hb, hr, hlk, hml, hown, hnm, hts, hN, hK, hA, hR1, hR2⟩ := C
  intro H locs ls hP hD hS hl
  exact lv_dup2_2 hx hb hd ha (kk H locs ls hP hD hS hl)
theorem gx_dup2_x1_2 (C : gx_C K D dA y cc nL ret d) {a b : Value} (hd : decode cc pc = .ok (.dup2_x1, 1)) (ha : a.category = 2 := by rfl) (hb1 : b.category = 1 := by rfl) (kk : gx_G K D nL k n (pc + 1) lv (a :: b :: a :: st) ws Z) : gx_G K D nL k n pc lv (a :: b :: st) ws Z := by
  obtain ⟨p, l, e, R, s, m, args, below, meth, c, A⟩ := K
  obtain ⟨hx, hb, hr, hlk, hml, hown, hnm, hts, hN, hK, hA, hR1, hR2⟩ := C
  intro H locs ls hP hD hS hl
  exact lv_dup2_x1_2 hx hb hd ha hb1 (kk H locs ls hP hD hS hl)
theorem gx_pop (C : gx_C K D dA y cc nL ret d) {a : Value} (hd : decode cc pc = .ok (.pop, 1)) (ha : a.category = 1 := by rfl) (kk : gx_G K D nL k n (pc + 1) lv st ws Z) : gx_G K D nL k n pc lv (a :: st) ws Z := by
  obtain ⟨p, l, e, R, s, m, args, below, meth, c, A⟩ := K
  obtain ⟨hx, hb, hr, hlk, hml, hown, hnm, hts, hN, hK, hA, hR1, hR2⟩ := C
  intro H locs ls hP hD hS hl
  exact lv_pop hx hb hd ha (kk H locs ls hP hD hS hl)
theorem gx_pop2_2 (C : gx_C K D dA y cc nL ret d) {a : Value} (hd : decode cc pc = .ok (.pop2, 1)) (ha : a.category = 2 := by rfl) (kk : gx_G K D nL k n (pc + 1) lv st ws Z) : gx_G K D nL k n pc lv (a :: st) ws Z := by
  obtain ⟨p, l, e, R, s, m, args, below, meth, c, A⟩ := K
  obtain ⟨hx, hb, hr, hlk, hml, hown, hnm, hts, hN, hK, hA, hR1, hR2⟩ := C
  intro H locs ls hP hD hS hl
  exact lv_pop2_2 hx hb hd ha (kk H locs ls hP hD hS hl)
theorem gx_icmp_eq (C : gx_C K D dA y cc nL ret d) {u v : Int32} {off : Int} (tgt : Nat) (hd : decode cc pc = .ok (.if_icmp .eq off, 3)) (kt : u = v → gx_G K D nL k n tgt lv st ws Z) (kf : ¬ u = v → gx_G K D nL k n (pc + 3) lv st ws Z) (ht : (pc : Int) + off = (tgt : Int) := by rfl) : gx_G K D nL k n pc lv (.int v :: .int u :: st) ws Z := by
  obtain ⟨p, l, e, R, s, m, args, below, meth, c, A⟩ := K
  obtain ⟨hx, hb, hr, hlk, hml, hown, hnm, hts, hN, hK, hA, hR1, hR2⟩ := C
  intro H locs ls hP hD hS hl
  exact lv_icmp_eq hx hb hd ht (fun h => kt h H locs ls hP hD hS hl) (fun h => kf h H locs ls hP hD hS hl)
theorem gx_if_eq (C : gx_C K D dA y cc nL ret d) {u : Int32} {off : Int} (tgt : Nat) (hd : decode cc pc = .ok (.ifCond .eq off, 3)) (kt : u = 0 → gx_G K D nL k n tgt lv st ws Z) (kf : ¬ u = 0 → gx_G K D nL k n (pc + 3) lv st ws Z) (ht : (pc : Int) + off = (tgt : Int) := by rfl) : gx_G K D nL k n pc lv (.int u :: st) ws Z := by
  obtain ⟨p, l, e, R, s, m, args, below, meth, c, A⟩ := K
  obtain ⟨hx, hb, hr, hlk, hml, hown, hnm, hts, hN, hK, hA, hR1, hR2⟩ := C
  intro H locs ls hP hD hS hl
  exact lv_if_eq hx hb hd ht (fun h => kt h H locs ls hP hD hS hl) (fun h => kf h H locs ls hP hD hS hl)
theorem gx_icmp_ne (C : gx_C K D dA y cc nL ret d) {u v : Int32} {off : Int} (tgt : Nat) (hd : decode cc pc = .ok (.if_icmp .ne off, 3)) (kt : ¬ u = v → gx_G K D nL k n tgt lv st ws Z) (kf : u = v → gx_G K D nL k n (pc + 3) lv st ws Z) (ht : (pc : Int) + off = (tgt : Int) := by rfl) : gx_G K D nL k n pc lv (.int v :: .int u :: st) ws Z := by
  obtain ⟨p, l, e, R, s, m, args, below, meth, c, A⟩ := K
  obtain ⟨hx, hb, hr, hlk, hml, hown, hnm, hts, hN, hK, hA, hR1, hR2⟩ := C
  intro H locs ls hP hD hS hl
  exact lv_icmp_ne hx hb hd ht (fun h => kt h H locs ls hP hD hS hl) (fun h => kf h H locs ls hP hD hS hl)
theorem gx_if_ne (C : gx_C K D dA y cc nL ret d) {u : Int32} {off : Int} (tgt : Nat) (hd : decode cc pc = .ok (.ifCond .ne off, 3)) (kt : ¬ u = 0 → gx_G K D nL k n tgt lv st ws Z) (kf : u = 0 → gx_G K D nL k n (pc + 3) lv st ws Z) (ht : (pc : Int) + off = (tgt : Int) := by rfl) : gx_G K D nL k n pc lv (.int u :: st) ws Z := by
  obtain ⟨p, l, e, R, s, m, args, below, meth, c, A⟩ := K
  obtain ⟨hx, hb, hr, hlk, hml, hown, hnm, hts, hN, hK, hA, hR1, hR2⟩ := C
  intro H locs ls hP hD hS hl
  exact lv_if_ne hx hb hd ht (fun h => kt h H locs ls hP hD hS hl) (fun h => kf h H locs ls hP hD hS hl)
theorem gx_icmp_lt (C : gx_C K D dA y cc nL ret d) {u v : Int32} {off : Int} (tgt : Nat) (hd : decode cc pc = .ok (.if_icmp .lt off, 3)) (kt : u < v → gx_G K D nL k n tgt lv st ws Z) (kf : ¬ u < v → gx_G K D nL k n (pc + 3) lv st ws Z) (ht : (pc : Int) + off = (tgt : Int) := by rfl) : gx_G K D nL k n pc lv (.int v :: .int u :: st) ws Z := by
  obtain ⟨p, l, e, R, s, m, args, below, meth, c, A⟩ := K
  obtain ⟨hx, hb, hr, hlk, hml, hown, hnm, hts, hN, hK, hA, hR1, hR2⟩ := C
  intro H locs ls hP hD hS hl
  exact lv_icmp_lt hx hb hd ht (fun h => kt h H locs ls hP hD hS hl) (fun h => kf h H locs ls hP hD hS hl)
theorem gx_if_lt (C : gx_C K D dA y cc nL ret d) {u : Int32} {off : Int} (tgt : Nat) (hd : decode cc pc = .ok (.ifCond .lt off, 3)) (kt : u < 0 → gx_G K D nL k n tgt lv st ws Z) (kf : ¬ u < 0 → gx_G K D nL k n (pc + 3) lv st ws Z) (ht : (pc : Int) + off = (tgt : Int) := by rfl) : gx_G K D nL k n pc lv (.int u :: st) ws Z := by
  obtain ⟨p, l, e, R, s, m, args, below, meth, c, A⟩ := K
  obtain ⟨hx, hb, hr, hlk, hml, hown, hnm, hts, hN, hK, hA, hR1, hR2⟩ := C
  intro H locs ls hP hD hS hl
  exact lv_if_lt hx hb hd ht (fun h => kt h H locs ls hP hD hS hl) (fun h => kf h H locs ls hP hD hS hl)
theorem gx_icmp_ge (C : gx_C K D dA y cc nL ret d) {u v : Int32} {off : Int} (tgt : Nat) (hd : decode cc pc = .ok (.if_icmp .ge off, 3)) (kt : v ≤ u → gx_G K D nL k n tgt lv st ws Z) (kf : ¬ v ≤ u → gx_G K D nL k n (pc + 3) lv st ws Z) (ht : (pc : Int) + off = (tgt : Int) := by rfl) : gx_G K D nL k n pc lv (.int v :: .int u :: st) ws Z := by
  obtain ⟨p, l, e, R, s, m, args, below, meth, c, A⟩ := K
  obtain ⟨hx, hb, hr, hlk, hml, hown, hnm, hts, hN, hK, hA, hR1, hR2⟩ := C
  intro H locs ls hP hD hS hl
  exact lv_icmp_ge hx hb hd ht (fun h => kt h H locs ls hP hD hS hl) (fun h => kf h H locs ls hP hD hS hl)
theorem gx_if_ge (C : gx_C K D dA y cc nL ret d) {u : Int32} {off : Int} (tgt : Nat) (hd : decode cc pc = .ok (.ifCond .ge off, 3)) (kt : 0 ≤ u → gx_G K D nL k n tgt lv st ws Z) (kf : ¬ 0 ≤ u → gx_G K D nL k n (pc + 3) lv st ws Z) (ht : (pc : Int) + off = (tgt : Int) := by rfl) : gx_G K D nL k n pc lv (.int u :: st) ws Z := by
  obtain ⟨p, l, e, R, s, m, args, below, meth, c, A⟩ := K
  obtain ⟨hx, hb, hr, hlk, hml, hown, hnm, hts, hN, hK, hA, hR1, hR2⟩ := C
  intro H locs ls hP hD hS hl
  exact lv_if_ge hx hb hd ht (fun h => kt h H locs ls hP hD hS hl) (fun h => kf h H locs ls hP hD hS hl)
theorem gx_icmp_gt (C : gx_C K D dA y cc nL ret d) {u v : Int32} {off : Int} (tgt : Nat) (hd : decode cc pc = .ok (.if_icmp .gt off, 3)) (kt : v < u → gx_G K D nL k n tgt lv st ws Z) (kf : ¬ v < u → gx_G K D nL k n (pc + 3) lv st ws Z) (ht : (pc : Int) + off = (tgt : Int) := by rfl) : gx_G K D nL k n pc lv (.int v :: .int u :: st) ws Z := by
  obtain ⟨p, l, e, R, s, m, args, below, meth, c, A⟩ := K
  obtain ⟨hx, hb, hr, hlk, hml, hown, hnm, hts, hN, hK, hA, hR1, hR2⟩ := C
  intro H locs ls hP hD hS hl
  exact lv_icmp_gt hx hb hd ht (fun h => kt h H locs ls hP hD hS hl) (fun h => kf h H locs ls hP hD hS hl)
theorem gx_if_gt (C : gx_C K D dA y cc nL ret d) {u : Int32} {off : Int} (tgt : Nat) (hd : decode cc pc = .ok (.ifCond .gt off, 3)) (kt : 0 < u → gx_G K D nL k n tgt lv st ws Z) (kf : ¬ 0 < u → gx_G K D nL k n (pc + 3) lv st ws Z) (ht : (pc : Int) + off = (tgt : Int) := by rfl) : gx_G K D nL k n pc lv (.int u :: st) ws Z := by
  obtain ⟨p, l, e, R, s, m, args, below, meth, c, A⟩ := K
  obtain ⟨hx, hb, hr, hlk, hml, hown, hnm, hts, hN, hK, hA, hR1, hR2⟩ := C
  intro H locs ls hP hD hS hl
  exact lv_if_gt hx hb hd ht (fun h => kt h H locs ls hP hD hS hl) (fun h => kf h H locs ls hP hD hS hl)
theorem gx_icmp_le (C : gx_C K D dA y cc nL ret d) {u v : Int32} {off : Int} (tgt : Nat) (hd : decode cc pc = .ok (.if_icmp .le off, 3)) (kt : u ≤ v → gx_G K D nL k n tgt lv st ws Z) (kf : ¬ u ≤ v → gx_G K D nL k n (pc + 3) lv st ws Z) (ht : (pc : Int) + off = (tgt : Int) := by rfl) : gx_G K D nL k n pc lv (.int v :: .int u :: st) ws Z := by
  obtain ⟨p, l, e, R, s, m, args, below, meth, c, A⟩ := K
  obtain ⟨hx, hb, hr, hlk, hml, hown, hnm, hts, hN, hK, hA, hR1, hR2⟩ := C
  intro H locs ls hP hD hS hl
  exact lv_icmp_le hx hb hd ht (fun h => kt h H locs ls hP hD hS hl) (fun h => kf h H locs ls hP hD hS hl)
theorem gx_if_le (C : gx_C K D dA y cc nL ret d) {u : Int32} {off : Int} (tgt : Nat) (hd : decode cc pc = .ok (.ifCond .le off, 3)) (kt : u ≤ 0 → gx_G K D nL k n tgt lv st ws Z) (kf : ¬ u ≤ 0 → gx_G K D nL k n (pc + 3) lv st ws Z) (ht : (pc : Int) + off = (tgt : Int) := by rfl) : gx_G K D nL k n pc lv (.int u :: st) ws Z := by
  obtain ⟨p, l, e, R, s, m, args, below, meth, c, A⟩ := K
  obtain ⟨hx, hb, hr, hlk, hml, hown, hnm, hts, hN, hK, hA, hR1, hR2⟩ := C
  intro H locs ls hP hD hS hl
  exact lv_if_le hx hb hd ht (fun h => kt h H locs ls hP hD hS hl) (fun h => kf h H locs ls hP hD hS hl)
theorem gx_goto (C : gx_C K D dA y cc nL ret d) {off : Int} (tgt : Nat) (hd : decode cc pc = .ok (.goto off, 3)) (kk : gx_G K D nL k n tgt lv st ws Z) (ht : (pc : Int) + off = (tgt : Int) := by rfl) : gx_G K D nL k n pc lv st ws Z := by
  obtain ⟨p, l, e, R, s, m, args, below, meth, c, A⟩ := K
  obtain ⟨hx, hb, hr, hlk, hml, hown, hnm, hts, hN, hK, hA, hR1, hR2⟩ := C
  intro H locs ls hP hD hS hl
  exact lv_goto hx hb hd ht (kk H locs ls hP hD hS hl)
theorem gx_tableIn (C : gx_C K D dA y cc nL ret d) {dflt lo hi : Int} {offs : Array Int} {len : Nat} {x : Int32} {off : Int} (tgt : Nat) (hd : decode cc pc = .ok (.tableswitch dflt lo hi offs, len)) (h1 : ¬ x.toInt < lo) (h2 : ¬ hi < x.toInt) (ho : offs[(x.toInt - lo).toNat]? = some off) (ht : (pc : Int) + off = (tgt : Int)) (kk : gx_G K D nL k n tgt lv st ws Z) : gx_G K D nL k n pc lv (.int x :: st) ws Z := by
  obtain ⟨p, l, e, R, s, m, args, below, meth, c, A⟩ := K
  obtain ⟨hx, hb, hr, hlk, hml, hown, hnm, hts, hN, hK, hA, hR1, hR2⟩ := C
  intro H locs ls hP hD hS hl
  exact lv_tableIn hx hb hd h1 h2 ho ht (kk H locs ls hP hD hS hl)
theorem gx_tableOut (C : gx_C K D dA y cc nL ret d) {dflt lo hi : Int} {offs : Array Int} {len : Nat} {x : Int32} (tgt : Nat) (hd : decode cc pc = .ok (.tableswitch dflt lo hi offs, len)) (h : x.toInt < lo ∨ hi < x.toInt) (ht : (pc : Int) + dflt = (tgt : Int)) (kk : gx_G K D nL k n tgt lv st ws Z) : gx_G K D nL k n pc lv (.int x :: st) ws Z := by
  obtain ⟨p, l, e, R, s, m, args, below, meth, c, A⟩ := K
  obtain ⟨hx, hb, hr, hlk, hml, hown, hnm, hts, hN, hK, hA, hR1, hR2⟩ := C
  intro H locs ls hP hD hS hl
  exact lv_tableOut hx hb hd h ht (kk H locs ls hP hD hS hl)
theorem gx_lookup (C : gx_C K D dA y cc nL ret d) {dflt : Int} {ps : Array (Int × Int)} {len : Nat} {x : Int32} {off : Int} (tgt : Nat) (hd : decode cc pc = .ok (.lookupswitch dflt ps, len)) (hp : (ps.toList.zip (ps.toList.drop 1)).all (fun (a, next) => a.1 < next.1) = true) (ho : Op.lookupswitch.offset ps.toList dflt x.toInt = off) (ht : (pc : Int) + off = (tgt : Int)) (kk : gx_G K D nL k n tgt lv st ws Z) : gx_G K D nL k n pc lv (.int x :: st) ws Z := by
  obtain ⟨p, l, e, R, s, m, args, below, meth, c, A⟩ := K
  obtain ⟨hx, hb, hr, hlk, hml, hown, hnm, hts, hN, hK, hA, hR1, hR2⟩ := C
  intro H locs ls hP hD hS hl
  exact lv_lookup hx hb hd hp ho ht (kk H locs ls hP hD hS hl)
theorem gx_top {a b : Value} (h : a = b) (kk : gx_G K D nL k n pc lv (b :: st) ws Z) : gx_G K D nL k n pc lv (a :: st) ws Z := h ▸ kk
theorem gx_topi {a : Int32} (b : Int32) (h : a = b) (kk : gx_G K D nL k n pc lv (.int b :: st) ws Z) : gx_G K D nL k n pc lv (.int a :: st) ws Z := h ▸ kk
theorem gx_topl {a : Int64} (b : Int64) (h : a = b) (kk : gx_G K D nL k n pc lv (.long b :: st) ws Z) : gx_G K D nL k n pc lv (.long a :: st) ws Z := h ▸ kk
theorem gx_stk {st' : List Value} (h : st = st') (kk : gx_G K D nL k n pc lv st' ws Z) : gx_G K D nL k n pc lv st ws Z := h ▸ kk
theorem gx_wld {ws' : va_W} (h : ws = ws') (kk : gx_G K D nL k n pc lv st ws' Z) : gx_G K D nL k n pc lv st ws Z := h ▸ kk
theorem gx_loc {lv' : List (Nat × Value)} (is : List Nat) (kk : gx_G K D nL k n pc lv' st ws Z) (h : lv_pick lv is = lv' := by rfl) : gx_G K D nL k n pc lv st ws Z := by
  obtain ⟨p, l, e, R, s, m, args, below, meth, c, A⟩ := K
  intro H locs ls hP hD hS hl
  exact kk H locs ls hP hD hS (lv_sub hl is h)
theorem gx_widen {k' n' : Nat} (h1 : k ≤ k') (h2 : n ≤ n') (kk : gx_G K D nL k' n' pc lv st ws Z) : gx_G K D nL k n pc lv st ws Z := by
  obtain ⟨p, l, e, R, s, m, args, below, meth, c, A⟩ := K
  intro H locs ls hP hD hS hl
  exact W.widen h1 h2 (kk H locs ls hP hD hS hl)
theorem gx_iret {Q : Option Value → va_W → Prop} {v : Int32} (C : gx_C K D dA y cc nL (some .int) d) (hd : decode cc pc = .ok (.ireturn, 1)) (hq : Q (some (.int v)) ws) : gx_G K D nL k n pc lv [.int v] ws (gx_Z K D dA k n Q) := by
  obtain ⟨p, l, e, R, s, m, args, below, meth, c, A⟩ := K
  obtain ⟨hx, hb, hr, hlk, hml, hown, hnm, hts, hN, hK, hA, hR1, hR2⟩ := C
  intro H locs ls hP hD hS hl
  exact W.iret hx hb hr (fun t ht hW => ⟨⟨_, ws, rfl, hq, by rw [ht]; exact hP, va_K.moved hW.alike hK, hD⟩, hS.F ht⟩) hS.2.2 hd hlk
theorem gx_lret {Q : Option Value → va_W → Prop} {v : Int64} (C : gx_C K D dA y cc nL (some .long) d) (hd : decode cc pc = .ok (.lreturn, 1)) (hq : Q (some (.long v)) ws) : gx_G K D nL k n pc lv [.long v] ws (gx_Z K D dA k n Q) := by
  obtain ⟨p, l, e, R, s, m, args, below, meth, c, A⟩ := K
  obtain ⟨hx, hb, hr, hlk, hml, hown, hnm, hts, hN, hK, hA, hR1, hR2⟩ := C
  intro H locs ls hP hD hS hl
  exact W.lret hx hb hr (fun t ht hW => ⟨⟨_, ws, rfl, hq, by rw [ht]; exact hP, va_K.moved hW.alike hK, hD⟩, hS.F ht⟩) hS.2.2 hd hlk
theorem gx_vret {Q : Option Value → va_W → Prop}  (C : gx_C K D dA y cc nL none d) (hd : decode cc pc = .ok (.return_, 1)) (hq : Q none ws) : gx_G K D nL k n pc lv [] ws (gx_Z K D dA k n Q) := by
  obtain ⟨p, l, e, R, s, m, args, below, meth, c, A⟩ := K
  obtain ⟨hx, hb, hr, hlk, hml, hown, hnm, hts, hN, hK, hA, hR1, hR2⟩ := C
  intro H locs ls hP hD hS hl
  exact W.vret hx hb hr (fun t ht hW => ⟨⟨_, ws, rfl, hq, by rw [ht]; exact hP, va_K.moved hW.alike hK, hD⟩, hS.F ht⟩) hS.2.2 hd hlk
theorem gx_zret {Q : Option Value → va_W → Prop} {v : Int32} {ty : FieldType} (C : gx_C K D dA y cc nL (some ty) d) (hd : decode cc pc = .ok (.ireturn, 1)) (hn : narrow ty (.int v) = .int v) (hq : Q (some (.int v)) ws) : gx_G K D nL k n pc lv [.int v] ws (gx_Z K D dA k n Q) := by
  obtain ⟨p, l, e, R, s, m, args, below, meth, c, A⟩ := K
  obtain ⟨hx, hb, hr, hlk, hml, hown, hnm, hts, hN, hK, hA, hR1, hR2⟩ := C
  intro H locs ls hP hD hS hl
  exact W.zret hx hb hr hn (fun t ht hW => ⟨⟨_, ws, rfl, hq, by rw [ht]; exact hP, va_K.moved hW.alike hK, hD⟩, hS.F ht⟩) hS.2.2 hd hlk
/-- a field's site: the pool's number idx in y's own file names field j of kind ci -/
def gx_fd (own : String) (idx ci j : Nat) : Prop := ∃ (C : String) (T : u_T) (N : Nat), vw_Cl[ci]? = some (C, T, N) ∧ j < N ∧ (∀ w ∈ u_ws C T N, w ∈ gx_F) ∧ (Cond.fieldLink own idx (T j).1 (T j).2.1 (T j).2.2.1 ∈ gx_F ∨ ∃ h : String, Cond.fieldLinkNest own idx (T j).1 (T j).2.1 (T j).2.2.1 h ∈ lw_tbl)
/-- and may be written with values of type ty -/
def gx_fw (own : String) (idx ci j : Nat) (ty : FieldType) : Prop := ∃ (C : String) (T : u_T) (N : Nat) (ty0 : Nat → FieldType), vw_Cl[ci]? = some (C, T, N) ∧ j < N ∧ (∀ w ∈ u_ws C T N, w ∈ gx_F) ∧ (Cond.fieldLink own idx (T j).1 (T j).2.1 (T j).2.2.1 ∈ gx_F ∨ ∃ h : String, Cond.fieldLinkNest own idx (T j).1 (T j).2.1 (T j).2.2.1 h ∈ lw_tbl) ∧ (∀ k, k < N → parseFieldDescriptor (T k).2.2.1 = some (ty0 k)) ∧ (∀ a, a < N → ∀ b, b < N → a ≠ b → (T a).2.1 ≠ (T b).2.1) ∧ (T j).2.2.2 = false ∧ ty0 j = ty
/-- a final field in its own constructor -/
def gx_ff (own : String) (idx ci j : Nat) (ty : FieldType) : Prop := ∃ (C : String) (T : u_T) (N : Nat) (ty0 : Nat → FieldType), vw_Cl[ci]? = some (C, T, N) ∧ j < N ∧ (∀ w ∈ u_ws C T N, w ∈ gx_F) ∧ Cond.fieldLink own idx (T j).1 (T j).2.1 (T j).2.2.1 ∈ gx_F ∧ (∀ k, k < N → parseFieldDescriptor (T k).2.2.1 = some (ty0 k)) ∧ (∀ a, a < N → ∀ b, b < N → a ≠ b → (T a).2.1 ≠ (T b).2.1) ∧ (T j).2.2.2 = true ∧ (T j).1 = own ∧ ty0 j = ty
theorem gx_get0 (C : gx_C K D dA y cc nL ret d) {idx ci j a : Nat} {fs : List Value} {v : Value} (F : gx_fd y.cls idx ci j) (q0 : Nat) (he : ws[q0]? = some (a, .inr (ci, fs))) (hd : decode cc pc = .ok (.getfield idx, 3)) (hv : fs[j]? = some v) (kk : gx_G K D nL k n (pc + 3) lv (v :: st) ws Z) : gx_G K D nL k n pc lv (.ref a :: st) ws Z := by
  obtain ⟨p, l, e, R, s, m, args, below, meth, c, A⟩ := K
  obtain ⟨hx, hb, hr, hlk, hml, hown, hnm, hts, hN, hK, hA, hR1, hR2⟩ := C
  intro H locs ls hP hD hS hl
  obtain ⟨C, T, N, hc, hj, hin, hk⟩ := F
  rcases hk with hk | ⟨h, hk⟩
  · exact va_get hx hb hts hin hown hK hP q0 he hc j hj (hts _ hk) (fun _ h9 => h9) hv hd (kk H locs ls hP hD hS hl)
  · exact va_getN hx hb hts hin hown hK hP q0 he hc j hj (va_Nw.use rfl (hN _ hk rfl)) (fun _ h9 => h9) hv hd (kk H locs ls hP hD hS hl)
theorem gx_put0 (C : gx_C K D dA y cc nL ret d) {idx ci j a : Nat} {fs : List Value} {v : Value} {ty : FieldType} (F : gx_fw y.cls idx ci j ty) (q0 : Nat) (he : ws[q0]? = some (a, .inr (ci, fs))) (hd : decode cc pc = .ok (.putfield idx, 3)) (hn : narrow ty v = v) (hf : fits ty v = true) (hj2 : j < fs.length) (kk : gx_G K D nL k n (pc + 3) lv st (ws.set q0 (a, .inr (ci, fs.set j v))) Z) : gx_G K D nL k n pc lv (v :: .ref a :: st) ws Z := by
  obtain ⟨p, l, e, R, s, m, args, below, meth, c, A⟩ := K
  obtain ⟨hx, hb, hr, hlk, hml, hown, hnm, hts, hN, hK, hA, hR1, hR2⟩ := C
  intro H locs ls hP hD hS hl
  obtain ⟨C, T, N, ty0, hc, hj, hin, hk, hty, hnn, hfin, rfl⟩ := F
  rcases hk with hk | ⟨h, hk⟩
  · exact va_put hx hb hts hin ty0 hty hnn hown hK hP hD hS q0 he hc j hj (hts _ hk) (fun _ h9 => h9) hfin (hty j hj) hn hf hj2 hd (fun H1 locs1 hP hD hS => kk H1 locs1 ls hP hD hS hl)
  · exact va_putN hx hb hts hin ty0 hty hnn hown hK hP hD hS q0 he hc j hj (va_Nw.use rfl (hN _ hk rfl)) (fun _ h9 => h9) hfin (hty j hj) hn hf hj2 hd (fun H1 locs1 hP hD hS => kk H1 locs1 ls hP hD hS hl)
theorem gx_putF0 (C : gx_C K D dA y cc nL ret d) {idx ci j a : Nat} {fs : List Value} {v : Value} {ty : FieldType} (F : gx_ff y.cls idx ci j ty) (hy : y.name = "<init>") (q0 : Nat) (he : ws[q0]? = some (a, .inr (ci, fs))) (hd : decode cc pc = .ok (.putfield idx, 3)) (hn : narrow ty v = v) (hf : fits ty v = true) (hj2 : j < fs.length) (kk : gx_G K D nL k n (pc + 3) lv st (ws.set q0 (a, .inr (ci, fs.set j v))) Z) : gx_G K D nL k n pc lv (v :: .ref a :: st) ws Z := by
  obtain ⟨p, l, e, R, s, m, args, below, meth, c, A⟩ := K
  obtain ⟨hx, hb, hr, hlk, hml, hown, hnm, hts, hN, hK, hA, hR1, hR2⟩ := C
  intro H locs ls hP hD hS hl
  obtain ⟨C, T, N, ty0, hc, hj, hin, hk, hty, hnn, hfin, hown2, rfl⟩ := F
  exact va_putF hx hb hts hin ty0 hty hnn hown hK hP hD hS q0 he hc j hj (hts _ hk) (fun _ h9 => h9) hfin (hnm.trans hy) hown2 (hty j hj) hn hf hj2 hd (fun H1 locs1 hP hD hS => kk H1 locs1 ls hP hD hS hl)
theorem gx_iaload0 (C : gx_C K D dA y cc nL ret d) {a n0 : Nat} {f : Nat → Int32} {i : Int32} (q0 : Nat) (he : ws[q0]? = some (a, .inl (dA 0, n0, .inl (f)))) (hd : decode cc pc = .ok (.iaload, 1)) (hin : vp_in i n0) (kk : gx_G K D nL k n (pc + 1) lv (.int (f i.toNatClampNeg) :: st) ws Z) : gx_G K D nL k n pc lv (.int i :: .ref a :: st) ws Z := by
  obtain ⟨p, l, e, R, s, m, args, below, meth, c, A⟩ := K
  obtain ⟨hx, hb, hr, hlk, hml, hown, hnm, hts, hN, hK, hA, hR1, hR2⟩ := C
  intro H locs ls hP hD hS hl
  exact va_iald hx hb hK hP q0 0 he rfl hin hd (kk H locs ls hP hD hS hl)
theorem gx_iastore0 (C : gx_C K D dA y cc nL ret d) {a n0 : Nat} {f : Nat → Int32} {i : Int32} {x : Int32} (q0 : Nat) (he : ws[q0]? = some (a, .inl (dA 0, n0, .inl (f)))) (hd : decode cc pc = .ok (.iastore, 1)) (hin : vp_in i n0) (kk : gx_G K D nL k n (pc + 1) lv st (ws.set q0 (a, .inl (dA 0, n0, .inl (upd f i.toNatClampNeg x)))) Z) : gx_G K D nL k n pc lv (.int x :: .int i :: .ref a :: st) ws Z := by
  obtain ⟨p, l, e, R, s, m, args, below, meth, c, A⟩ := K
  obtain ⟨hx, hb, hr, hlk, hml, hown, hnm, hts, hN, hK, hA, hR1, hR2⟩ := C
  intro H locs ls hP hD hS hl
  exact va_iast hx hb hK hP hD hS q0 0 he rfl hin hd (fun H1 locs1 hP hD hS => kk H1 locs1 ls hP hD hS hl)
theorem gx_laload0 (C : gx_C K D dA y cc nL ret d) {a n0 : Nat} {f : Nat → Int64} {i : Int32} (q0 : Nat) (he : ws[q0]? = some (a, .inl (dA 1, n0, .inr (.inl (f))))) (hd : decode cc pc = .ok (.laload, 1)) (hin : vp_in i n0) (kk : gx_G K D nL k n (pc + 1) lv (.long (f i.toNatClampNeg) :: st) ws Z) : gx_G K D nL k n pc lv (.int i :: .ref a :: st) ws Z := by
  obtain ⟨p, l, e, R, s, m, args, below, meth, c, A⟩ := K
  obtain ⟨hx, hb, hr, hlk, hml, hown, hnm, hts, hN, hK, hA, hR1, hR2⟩ := C
  intro H locs ls hP hD hS hl
  exact va_lald hx hb hK hP q0 1 he rfl hin hd (kk H locs ls hP hD hS hl)
theorem gx_lastore0 (C : gx_C K D dA y cc nL ret d) {a n0 : Nat} {f : Nat → Int64} {i : Int32} {x : Int64} (q0 : Nat) (he : ws[q0]? = some (a, .inl (dA 1, n0, .inr (.inl (f))))) (hd : decode cc pc = .ok (.lastore, 1)) (hin : vp_in i n0) (kk : gx_G K D nL k n (pc + 1) lv st (ws.set q0 (a, .inl (dA 1, n0, .inr (.inl (vp_updL f i.toNatClampNeg x))))) Z) : gx_G K D nL k n pc lv (.long x :: .int i :: .ref a :: st) ws Z := by
  obtain ⟨p, l, e, R, s, m, args, below, meth, c, A⟩ := K
  obtain ⟨hx, hb, hr, hlk, hml, hown, hnm, hts, hN, hK, hA, hR1, hR2⟩ := C
  intro H locs ls hP hD hS hl
  exact va_last hx hb hK hP hD hS q0 1 he rfl hin hd (fun H1 locs1 hP hD hS => kk H1 locs1 ls hP hD hS hl)
theorem gx_caload0 (C : gx_C K D dA y cc nL ret d) {a n0 : Nat} {f : Nat → Int32} {i : Int32} (q0 : Nat) (he : ws[q0]? = some (a, .inl (dA 2, n0, .inl (f)))) (hd : decode cc pc = .ok (.caload, 1)) (hin : vp_in i n0) (kk : gx_G K D nL k n (pc + 1) lv (.int (f i.toNatClampNeg) :: st) ws Z) : gx_G K D nL k n pc lv (.int i :: .ref a :: st) ws Z := by
  obtain ⟨p, l, e, R, s, m, args, below, meth, c, A⟩ := K
  obtain ⟨hx, hb, hr, hlk, hml, hown, hnm, hts, hN, hK, hA, hR1, hR2⟩ := C
  intro H locs ls hP hD hS hl
  exact va_cald hx hb hK hP q0 2 he rfl hin hd (kk H locs ls hP hD hS hl)
theorem gx_castore0 (C : gx_C K D dA y cc nL ret d) {a n0 : Nat} {f : Nat → Int32} {i : Int32} {x : Int32} (q0 : Nat) (he : ws[q0]? = some (a, .inl (dA 2, n0, .inl (f)))) (hd : decode cc pc = .ok (.castore, 1)) (hin : vp_in i n0) (kk : gx_G K D nL k n (pc + 1) lv st (ws.set q0 (a, .inl (dA 2, n0, .inl (upd f i.toNatClampNeg (vp_nar .char x))))) Z) : gx_G K D nL k n pc lv (.int x :: .int i :: .ref a :: st) ws Z := by
  obtain ⟨p, l, e, R, s, m, args, below, meth, c, A⟩ := K
  obtain ⟨hx, hb, hr, hlk, hml, hown, hnm, hts, hN, hK, hA, hR1, hR2⟩ := C
  intro H locs ls hP hD hS hl
  exact va_cast hx hb hK hP hD hS q0 2 he rfl hin hd (fun H1 locs1 hP hD hS => kk H1 locs1 ls hP hD hS hl)
theorem gx_zaload0 (C : gx_C K D dA y cc nL ret d) {a n0 : Nat} {f : Nat → Int32} {i : Int32} (q0 : Nat) (he : ws[q0]? = some (a, .inl (dA 3, n0, .inl (f)))) (hd : decode cc pc = .ok (.baload, 1)) (hin : vp_in i n0) (kk : gx_G K D nL k n (pc + 1) lv (.int (f i.toNatClampNeg) :: st) ws Z) : gx_G K D nL k n pc lv (.int i :: .ref a :: st) ws Z := by
  obtain ⟨p, l, e, R, s, m, args, below, meth, c, A⟩ := K
  obtain ⟨hx, hb, hr, hlk, hml, hown, hnm, hts, hN, hK, hA, hR1, hR2⟩ := C
  intro H locs ls hP hD hS hl
  exact va_zald hx hb hK hP q0 3 he rfl hin hd (kk H locs ls hP hD hS hl)
theorem gx_zastore0 (C : gx_C K D dA y cc nL ret d) {a n0 : Nat} {f : Nat → Int32} {i : Int32} {x : Int32} (q0 : Nat) (he : ws[q0]? = some (a, .inl (dA 3, n0, .inl (f)))) (hd : decode cc pc = .ok (.bastore, 1)) (hin : vp_in i n0) (kk : gx_G K D nL k n (pc + 1) lv st (ws.set q0 (a, .inl (dA 3, n0, .inl (upd f i.toNatClampNeg (vp_nar .boolean x))))) Z) : gx_G K D nL k n pc lv (.int x :: .int i :: .ref a :: st) ws Z := by
  obtain ⟨p, l, e, R, s, m, args, below, meth, c, A⟩ := K
  obtain ⟨hx, hb, hr, hlk, hml, hown, hnm, hts, hN, hK, hA, hR1, hR2⟩ := C
  intro H locs ls hP hD hS hl
  exact va_zast hx hb hK hP hD hS q0 3 he rfl hin hd (fun H1 locs1 hP hD hS => kk H1 locs1 ls hP hD hS hl)
theorem gx_aaload0 (C : gx_C K D dA y cc nL ret d) {a n0 : Nat} {f : Nat → Option Nat} {i : Int32} (q0 : Nat) (he : ws[q0]? = some (a, .inl (dA 4, n0, .inr (.inr (.inr (.inr f)))))) (hd : decode cc pc = .ok (.aaload, 1)) (hin : vp_in i n0) (kk : gx_G K D nL k n (pc + 1) lv (va_rf (f i.toNatClampNeg) :: st) ws Z) : gx_G K D nL k n pc lv (.int i :: .ref a :: st) ws Z := by
  obtain ⟨p, l, e, R, s, m, args, below, meth, c, A⟩ := K
  obtain ⟨hx, hb, hr, hlk, hml, hown, hnm, hts, hN, hK, hA, hR1, hR2⟩ := C
  intro H locs ls hP hD hS hl
  exact va_aldq hx hb hK hP q0 4 he rfl hin hd (kk H locs ls hP hD hS hl)
theorem gx_alen0 (C : gx_C K D dA y cc nL ret d) {a t0 : Nat} {x : vp_A} {ty : FieldType} (q0 : Nat) (he : ws[q0]? = some (a, .inl (dA t0, x))) (ht : (gx_T dA)[t0]? = some (dA t0, ty)) (hd : decode cc pc = .ok (.arraylength, 1)) (kk : gx_G K D nL k n (pc + 1) lv (.int (Int32.ofNat x.1) :: st) ws Z) : gx_G K D nL k n pc lv (.ref a :: st) ws Z := by
  obtain ⟨p, l, e, R, s, m, args, below, meth, c, A⟩ := K
  obtain ⟨hx, hb, hr, hlk, hml, hown, hnm, hts, hN, hK, hA, hR1, hR2⟩ := C
  intro H locs ls hP hD hS hl
  exact va_alen hx hb hK hP q0 t0 he ht rfl hd (kk H locs ls hP hD hS hl)
theorem gx_aastore0 (C : gx_C K D dA y cc nL ret d) {a b n0 ci : Nat} {T : u_T} {N : Nat} {vs : List Value} {f : Nat → Option Nat} {i : Int32} (q0 qk : Nat) (he : ws[q0]? = some (a, .inl (dA 4, n0, .inr (.inr (.inr (.inr f)))))) (hv : ws[qk]? = some (b, .inr (ci, vs))) (hc : vw_Cl[ci]? = some ("WeighedMachines$Machine", T, N)) (hd : decode cc pc = .ok (.aastore, 1)) (hin : vp_in i n0) (kk : gx_G K D nL k n (pc + 1) lv st (ws.set q0 (a, .inl (dA 4, n0, .inr (.inr (.inr (.inr (va_up f i.toNatClampNeg (some b)))))))) Z) : gx_G K D nL k n pc lv (.ref b :: .int i :: .ref a :: st) ws Z := by
  obtain ⟨p, l, e, R, s, m, args, below, meth, c, A⟩ := K
  obtain ⟨hx, hb, hr, hlk, hml, hown, hnm, hts, hN, hK, hA, hR1, hR2⟩ := C
  intro H locs ls hP hD hS hl
  exact va_astq hx hb hK hP hD hS q0 4 qk ci he rfl hv hc hin hd (fun H1 locs1 hP hD hS => kk H1 locs1 ls hP hD hS hl)
/-- a method as the tables have it: its code, its kind made ready, how many it takes -/
def gx_me (y : MethodName) (cc : ByteArray) (nL : Nat) (ret : Option FieldType) (np : Nat) : Prop := Cond.code y cc nL ret ∈ gx_F ∧ Cond.initialized y.cls ∈ gx_F ∧ (y.cls ≠ "java/lang/invoke/MethodHandle" ∧ y.cls ≠ "java/lang/invoke/VarHandle" ∧ (parseMethodDescriptor y.desc).map (fun d => d.parameters.length) = some np) ∧ nL ≤ 32
/-- a call's site -/
def gx_ml (own : String) (idx : Nat) (y2 : MethodName) : Prop := Cond.methodLink own idx y2 ∈ gx_F ∨ ∃ h : String, Cond.methodLinkNest own idx y2 h ∈ lw_tbl
def gx_in (y : MethodName) : Prop := Cond.instanceMethod y ∈ gx_F ∧ Cond.selects y.cls y y ∈ gx_F
theorem gx_good {y : MethodName} {cc : ByteArray} {nL : Nat} {ret : Option FieldType} (h : Cond.code y cc nL ret ∈ gx_F) : GoodIn gx_F (Cond.code y cc nL ret :: gx_F) := by
  intro w hw
  rcases List.mem_cons.mp hw with rfl | hw
  · exact ⟨h, gx_F_good h⟩
  · exact ⟨hw, gx_F_good hw⟩
theorem gx_blind {D : va_G} {dA : Nat → ClassId} {av : List Value} {ws : va_W} {sz : Nat} : FrameBlind (gx_Pc D dA av ws sz) := by
  intro a U g mk q
  obtain ⟨q0, q1, qP, qK, qD, qN⟩ := q
  exact ⟨q0, q1, qP, va_K.moved (u := U) (U := U.calling g mk a) (Vm.Alike.refl U.vm) qK, qD, gx_N.same (s := U) (U := U.calling g mk a) rfl qN⟩
theorem gx_go {p : Program} {l : Launch} {e : Env} {R : Room} {s : State} {m : MethodId} {args : Array Value} {below : List Frame} {meth : Method} {c : Code} {H : Heap} {locs : List Loc} {cells slots mc ms pc : Nat} {ls : Array Slot} {rest st0 : List Value} {a : Array Value} {A0 A1 : Nat → Prop} {H0 : Heap} {free : Addr → Prop} {D : va_G} {dA : Nat → ClassId} {Q : Option Value → va_W → Prop} {Z : State → Prop}
    (hr : va_Run p l e R s m args below meth c H locs cells slots mc ms (F0 m pc ls st0) rest (gx_Q D dA Q A1 a) free) (hS : va_S A0 H0 H locs) (hA : ∀ q, q < H.size → A1 q → A0 q) (hf : ∀ q, free q → A0 q)
    (kk : ∀ (v : Option Value) (w : va_W) (H1 : Heap) (locs1 : List Loc), Q v w → va_P D vw_Cl w H1 → va_D A1 w → va_S A0 H0 H1 locs1 → W p l e R s m args below meth c H1 locs1 (cells + mc) (slots + ms) Z (F0 m (pc + 3) ls (v.toList ++ rest))) : W p l e R s m args below meth c H locs cells slots Z (F0 m pc ls st0) := by
  intro T hT X
  obtain ⟨v, st₀, t, T', L, h0, X', hL, e1, e2, ⟨⟨v2, w, hv, hp, hPw, hKw, hDw⟩, hz, hk⟩, st⟩ := hr T hT X
  cases hv
  rw [h0] at hz hk
  obtain ⟨t2, a1, b1⟩ := kk v w T'.heap (locs ++ L) hp (by rw [e1]; exact hPw) hDw
    ⟨Nat.le_trans hS.1 (by rw [e1]; exact hz), fun q h1 h2 => by rw [e1, hk q (Nat.lt_of_lt_of_le h1 hS.1) (fun z => h2 (hA q (Nat.lt_of_lt_of_le h1 hS.1) z))]; exact hS.2.1 q h1 h2, fun q hq => by
      rcases List.mem_append.mp hq with h | h
      · exact hS.2.2 q h
      · exact hf _ (hL q h)⟩ T' rfl X'
  exact ⟨t2, st t2 a1, b1⟩
theorem gx_own {A : Nat → Prop} {ws : va_W} {H0 H : Heap} {locs : List Loc} (hD : va_D A ws) (hS : va_S A H0 H locs) (hA : ∀ q : Nat, H0.size ≤ q → A q) : ∀ q, va_A ws H.size q → A q := by
  intro q h
  rcases h with ⟨k, e, h⟩ | h
  · exact hD.2 k (q, e) h
  · exact hA q (Nat.le_trans hS.1 h)
theorem gx_callV (C : gx_C K D dA y cc nL ret d) {idx b : Nat} {y2 : MethodName} {cc2 : ByteArray} {nL2 : Nat} {ret2 : Option FieldType} {d2 mc ms np : Nat} {Q : Option Value → va_W → Prop} {As rest : List Value} (hM : gx_Ct (gx_l K) D dA y2 cc2 nL2 ret2 d2 mc ms (.ref b :: As) ws Q) (hm : gx_me y2 cc2 nL2 ret2 np) (hsite : gx_ml y.cls idx y2) {ci : Nat} {T : u_T} {N : Nat} {fs : List Value} (hi : gx_in y2) (q0 : Nat) (he : ws[q0]? = some (b, .inr (ci, fs))) (hc : vw_Cl[ci]? = some (y2.cls, T, N)) (hd : decode cc pc = .ok (.invokevirtual idx, 3)) (hst : st = As.reverse ++ .ref b :: rest := by rfl) (hn : As.length = np := by rfl) (hdep : d2 + 1 ≤ d := by decide) (hcat : (rest.map fun v => v.category).sum ≤ 8 := by exact Nat.le_of_ble_eq_true rfl) (hf : k + mc ≤ (gx_R K).cells ∧ n + ms ≤ (gx_R K).slots := by exact ⟨Nat.zero_le _, Nat.zero_le _⟩)
    (kk : ∀ (v : Option Value) (w : va_W), Q v w → gx_G K D nL (k + mc) (n + ms) (pc + 3) lv (v.toList ++ rest) w Z) : gx_G K D nL k n pc lv st ws Z := by
  obtain ⟨p, l, e, R, s, m, args, below, meth, c, A⟩ := K
  obtain ⟨hx, hb, hr, hlk, hml, hown, hnm, hts, hN, hK, hA, hR1, hR2⟩ := C
  intro H locs ls hP hD hS hl
  obtain ⟨h1, h2, h3, h4⟩ := hm
  have hR : (gx_rm d2 mc ms).frames + 1 ≤ R.frames ∧ 8 + (nL2 + 11) + (gx_rm d2 mc ms).locals ≤ R.locals := ⟨Nat.le_trans hdep hR1, by show 8 + (nL2 + 11) + 51 * d2 ≤ R.locals; omega⟩
  have hF := gx_own hD hS hA
  have hgo : ∀ U : State, U.heap = H → s.WarmedH U.vm → gx_Pc D dA ((.ref b :: As)) ws H.size ((.ref b :: As) : List Value).toArray U := fun U hU hW => ⟨rfl, by rw [hU], by rw [hU]; exact hP, va_K.moved hW.alike hK, hD.weaken (fun _ _ _ _ => trivial), hN.warm hW⟩
  have hend : ∀ (v : Option Value) (w : va_W) (H1 : Heap) (locs1 : List Loc), Q v w → va_P D vw_Cl w H1 → va_D (va_A ws H.size) w → va_S A s.heap H1 locs1 → W p l e R s m args below meth c H1 locs1 (k + mc) (n + ms) Z (F0 m (pc + 3) ls (v.toList ++ rest)) := fun v w H1 locs1 hq hP1 hD1 hS1 => kk v w hq H1 locs1 ls hP1 (hD1.weaken (fun _ q _ h => hF q.1 h)) hS1 hl
  subst hst
  rcases hsite with hk | ⟨h, hk⟩
  · exact gx_go (va_runV (As := As) (rest := rest) ⟨hx, hb, hml, hown, hts⟩ (hM H.size) ⟨callB_of np hts (gx_good h1) rfl rfl rfl (hts _ h2) (hts _ hk) h3 hR, hts _ hi.1, hts _ hi.2⟩ ⟨gx_blind, va_recv hK hP hc he, hgo⟩ rfl hn hl.1 rfl (lv_room hcat) hd hf) hS (fun q _ h => hF q h) hF hend
  · exact gx_go (va_runVN (As := As) (rest := rest) ⟨hx, hb, hml, hown, hts⟩ (hM H.size) ⟨va_cnB np hts (gx_good h1) rfl rfl rfl (hN _ hk rfl) (hts _ h2) h3 hR, hts _ hi.1, hts _ hi.2⟩ ⟨gx_blind, va_recv hK hP hc he, hgo⟩ rfl hn hl.1 rfl (lv_room hcat) hd hf) hS (fun q _ h => hF q h) hF hend
theorem gx_callS (C : gx_C K D dA y cc nL ret d) {idx : Nat} {y2 : MethodName} {cc2 : ByteArray} {nL2 : Nat} {ret2 : Option FieldType} {d2 mc ms np : Nat} {Q : Option Value → va_W → Prop} {As rest : List Value} (hM : gx_Ct (gx_l K) D dA y2 cc2 nL2 ret2 d2 mc ms As ws Q) (hm : gx_me y2 cc2 nL2 ret2 np) (hsite : gx_ml y.cls idx y2) (hi : Cond.static y2 ∈ gx_F) (hd : decode cc pc = .ok (.invokestatic idx, 3)) (hst : st = As.reverse ++ rest := by rfl) (hn : As.length = np := by rfl) (hdep : d2 + 1 ≤ d := by decide) (hcat : (rest.map fun v => v.category).sum ≤ 8 := by exact Nat.le_of_ble_eq_true rfl) (hf : k + mc ≤ (gx_R K).cells ∧ n + ms ≤ (gx_R K).slots := by exact ⟨Nat.zero_le _, Nat.zero_le _⟩)
    (kk : ∀ (v : Option Value) (w : va_W), Q v w → gx_G K D nL (k + mc) (n + ms) (pc + 3) lv (v.toList ++ rest) w Z) : gx_G K D nL k n pc lv st ws Z := by
  obtain ⟨p, l, e, R, s, m, args, below, meth, c, A⟩ := K
  obtain ⟨hx, hb, hr, hlk, hml, hown, hnm, hts, hN, hK, hA, hR1, hR2⟩ := C
  intro H locs ls hP hD hS hl
  obtain ⟨h1, h2, h3, h4⟩ := hm
  have hR : (gx_rm d2 mc ms).frames + 1 ≤ R.frames ∧ 8 + (nL2 + 11) + (gx_rm d2 mc ms).locals ≤ R.locals := ⟨Nat.le_trans hdep hR1, by show 8 + (nL2 + 11) + 51 * d2 ≤ R.locals; omega⟩
  have hF := gx_own hD hS hA
  have hgo : ∀ U : State, U.heap = H → s.WarmedH U.vm → gx_Pc D dA (As) ws H.size (As : List Value).toArray U := fun U hU hW => ⟨rfl, by rw [hU], by rw [hU]; exact hP, va_K.moved hW.alike hK, hD.weaken (fun _ _ _ _ => trivial), hN.warm hW⟩
  have hend : ∀ (v : Option Value) (w : va_W) (H1 : Heap) (locs1 : List Loc), Q v w → va_P D vw_Cl w H1 → va_D (va_A ws H.size) w → va_S A s.heap H1 locs1 → W p l e R s m args below meth c H1 locs1 (k + mc) (n + ms) Z (F0 m (pc + 3) ls (v.toList ++ rest)) := fun v w H1 locs1 hq hP1 hD1 hS1 => kk v w hq H1 locs1 ls hP1 (hD1.weaken (fun _ q _ h => hF q.1 h)) hS1 hl
  subst hst
  rcases hsite with hk | ⟨h, hk⟩
  · exact gx_go (va_runS (As := As) (rest := rest) ⟨hx, hb, hml, hown, hts⟩ (hM H.size) ⟨callB_of np hts (gx_good h1) rfl rfl rfl (hts _ h2) (hts _ hk) h3 hR, hts _ hi⟩ ⟨gx_blind, hgo⟩ rfl hn hl.1 rfl (lv_room hcat) hd hf) hS (fun q _ h => hF q h) hF hend
  · exact gx_go (va_runSN (As := As) (rest := rest) ⟨hx, hb, hml, hown, hts⟩ (hM H.size) ⟨va_cnB np hts (gx_good h1) rfl rfl rfl (hN _ hk rfl) (hts _ h2) h3 hR, hts _ hi, trivial⟩ ⟨gx_blind, hgo⟩ rfl hn hl.1 rfl (lv_room hcat) hd hf) hS (fun q _ h => hF q h) hF hend
end GX
-- worlds of 65 cells at fixed places: the program's and the reference's
def gx_w (ad : Nat → Nat) (h : Nat → va_E) : va_W := (List.range 65).map fun k => (ad k, h k)
theorem gx_w_at {ad : Nat → Nat} {h : Nat → va_E} {k : Nat} {e : va_E} (hk : k < 65) (he : h k = e) : (gx_w ad h)[k]? = some (ad k, e) := by
  subst he
  simp [gx_w, hk]
theorem gx_w_set {ad : Nat → Nat} {h : Nat → va_E} {k : Nat} (e : va_E) : (gx_w ad h).set k (ad k, e) = gx_w ad (va_up h k e) := by
  apply List.ext_getElem?
  intro i
  rw [List.getElem?_set]
  by_cases hi : i < 65
  · by_cases hk : k = i
    · subst hk
      simp [gx_w, hi, va_up]
    · simp [gx_w, hi, va_up, hk, Ne.symm hk]
  · by_cases hk : k = i
    · subst hk
      simp [gx_w, hi]
    · simp [gx_w, hi, hk]
