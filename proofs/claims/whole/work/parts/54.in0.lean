/-! MAKING: the rows of new, newarray, anewarray, of constructors -/
theorem in_WM : Cond.instantiable "WeighedMachines" 10 ∈ gx_F := gx_F_in (tb_1 (List.mem_of_getElem? (i := 18) (by decide +kernel))) rfl
theorem in_Ma : Cond.instantiable "WeighedMachines$Machine" 7 ∈ gx_F := gx_F_in (tb_1 (List.mem_of_getElem? (i := 27) (by decide +kernel))) rfl
theorem in_Co : Cond.instantiable "WeighedMachines$Composing" 4 ∈ gx_F := gx_F_in (tb_1 (List.mem_of_getElem? (i := 109) (by decide +kernel))) rfl
theorem in_Ba : Cond.instantiable "WeighedMachines$Baring" 1 ∈ gx_F := gx_F_in (tb_1 (List.mem_of_getElem? (i := 128) (by decide +kernel))) rfl
theorem in_De : Cond.instantiable "WeighedMachines$Determining" 4 ∈ gx_F := gx_F_in (tb_1 (List.mem_of_getElem? (i := 138) (by decide +kernel))) rfl
theorem in_On : Cond.instantiable "WeighedMachines$Onward" 1 ∈ gx_F := gx_F_in (tb_1 (List.mem_of_getElem? (i := 157) (by decide +kernel))) rfl
theorem in_We : Cond.instantiable "WeighedMachines$Weighing" 3 ∈ gx_F := gx_F_in (tb_1 (List.mem_of_getElem? (i := 167) (by decide +kernel))) rfl
theorem in_Ro : Cond.instantiable "WeighedMachines$Row" 2 ∈ gx_F := gx_F_in (tb_1 (List.mem_of_getElem? (i := 173) (by decide +kernel))) rfl
theorem in_BP : Cond.instantiable "WeighedMachines$BestPath" 3 ∈ gx_F := gx_F_in (tb_1 (List.mem_of_getElem? (i := 197) (by decide +kernel))) rfl
theorem in_Te : Cond.instantiable "WeighedMachines$Text" 2 ∈ gx_F := gx_F_in (tb_1 (List.mem_of_getElem? (i := 216) (by decide +kernel))) rfl
theorem in_Pa : Cond.instantiable "WeighedMachines$Parsing" 4 ∈ gx_F := gx_F_in (tb_1 (List.mem_of_getElem? (i := 232) (by decide +kernel))) rfl
theorem in_Mo : Cond.instantiable "WeighedMachinesModel" 28 ∈ gx_F := gx_F_in (tb_4 (List.mem_of_getElem? (i := 38) (by decide +kernel))) rfl
theorem cl_La_7 : Cond.classLink "WeighedMachinesLaw" 7 "WeighedMachines" ∈ gx_F := gx_F_in (tb_1 (List.mem_of_getElem? (i := 17) (by decide +kernel))) rfl
theorem oi_WM : Cond.methodLink "WeighedMachines" 1 Lib.objectInit ∈ gx_F := gx_F_in (tb_1 (List.mem_of_getElem? (i := 22) (by decide +kernel))) rfl
theorem cl_WM_9 : Cond.classLink "WeighedMachines" 9 "WeighedMachines$Machine" ∈ gx_F := gx_F_in (tb_1 (List.mem_of_getElem? (i := 25) (by decide +kernel))) rfl
theorem oi_Ma : Cond.methodLink "WeighedMachines$Machine" 3 Lib.objectInit ∈ gx_F := gx_F_in (tb_1 (List.mem_of_getElem? (i := 31) (by decide +kernel))) rfl
theorem cl_WM_20 : Cond.classLink "WeighedMachines" 20 "WeighedMachines$Composing" ∈ gx_F := gx_F_in (tb_1 (List.mem_of_getElem? (i := 108) (by decide +kernel))) rfl
theorem oi_Co : Cond.methodLink "WeighedMachines$Composing" 3 Lib.objectInit ∈ gx_F := gx_F_in (tb_1 (List.mem_of_getElem? (i := 113) (by decide +kernel))) rfl
theorem cl_WM_27 : Cond.classLink "WeighedMachines" 27 "WeighedMachines$Baring" ∈ gx_F := gx_F_in (tb_1 (List.mem_of_getElem? (i := 127) (by decide +kernel))) rfl
theorem oi_Ba : Cond.methodLink "WeighedMachines$Baring" 3 Lib.objectInit ∈ gx_F := gx_F_in (tb_1 (List.mem_of_getElem? (i := 132) (by decide +kernel))) rfl
theorem cl_WM_34 : Cond.classLink "WeighedMachines" 34 "WeighedMachines$Determining" ∈ gx_F := gx_F_in (tb_1 (List.mem_of_getElem? (i := 137) (by decide +kernel))) rfl
theorem oi_De : Cond.methodLink "WeighedMachines$Determining" 3 Lib.objectInit ∈ gx_F := gx_F_in (tb_1 (List.mem_of_getElem? (i := 142) (by decide +kernel))) rfl
theorem cl_WM_41 : Cond.classLink "WeighedMachines" 41 "WeighedMachines$Onward" ∈ gx_F := gx_F_in (tb_1 (List.mem_of_getElem? (i := 156) (by decide +kernel))) rfl
theorem oi_On : Cond.methodLink "WeighedMachines$Onward" 3 Lib.objectInit ∈ gx_F := gx_F_in (tb_1 (List.mem_of_getElem? (i := 161) (by decide +kernel))) rfl
theorem cl_WM_48 : Cond.classLink "WeighedMachines" 48 "WeighedMachines$Weighing" ∈ gx_F := gx_F_in (tb_1 (List.mem_of_getElem? (i := 166) (by decide +kernel))) rfl
theorem oi_We : Cond.methodLink "WeighedMachines$Weighing" 3 Lib.objectInit ∈ gx_F := gx_F_in (tb_1 (List.mem_of_getElem? (i := 171) (by decide +kernel))) rfl
theorem cl_We_9 : Cond.classLink "WeighedMachines$Weighing" 9 "WeighedMachines$Row" ∈ gx_F := gx_F_in (tb_1 (List.mem_of_getElem? (i := 172) (by decide +kernel))) rfl
theorem oi_Ro : Cond.methodLink "WeighedMachines$Row" 3 Lib.objectInit ∈ gx_F := gx_F_in (tb_1 (List.mem_of_getElem? (i := 177) (by decide +kernel))) rfl
theorem cl_WM_55 : Cond.classLink "WeighedMachines" 55 "WeighedMachines$BestPath" ∈ gx_F := gx_F_in (tb_1 (List.mem_of_getElem? (i := 196) (by decide +kernel))) rfl
theorem oi_BP : Cond.methodLink "WeighedMachines$BestPath" 3 Lib.objectInit ∈ gx_F := gx_F_in (tb_1 (List.mem_of_getElem? (i := 201) (by decide +kernel))) rfl
theorem cl_WM_62 : Cond.classLink "WeighedMachines" 62 "WeighedMachines$Text" ∈ gx_F := gx_F_in (tb_1 (List.mem_of_getElem? (i := 215) (by decide +kernel))) rfl
theorem oi_Te : Cond.methodLink "WeighedMachines$Text" 3 Lib.objectInit ∈ gx_F := gx_F_in (tb_1 (List.mem_of_getElem? (i := 220) (by decide +kernel))) rfl
theorem cl_WM_69 : Cond.classLink "WeighedMachines" 69 "WeighedMachines$Parsing" ∈ gx_F := gx_F_in (tb_1 (List.mem_of_getElem? (i := 231) (by decide +kernel))) rfl
theorem oi_Pa : Cond.methodLink "WeighedMachines$Parsing" 3 Lib.objectInit ∈ gx_F := gx_F_in (tb_1 (List.mem_of_getElem? (i := 236) (by decide +kernel))) rfl
theorem cl_La_10 : Cond.classLink "WeighedMachinesLaw" 10 "WeighedMachinesModel" ∈ gx_F := gx_F_in (tb_4 (List.mem_of_getElem? (i := 37) (by decide +kernel))) rfl
theorem oi_Mo : Cond.methodLink "WeighedMachinesModel" 1 Lib.objectInit ∈ gx_F := gx_F_in (tb_4 (List.mem_of_getElem? (i := 42) (by decide +kernel))) rfl
theorem ac_i : Cond.arrayClass .int ∈ gx_F := gx_F_in (tb_1 (List.mem_of_getElem? (i := 107) (by decide +kernel))) rfl
theorem ac_l : Cond.arrayClass .long ∈ gx_F := gx_F_in (tb_1 (List.mem_of_getElem? (i := 106) (by decide +kernel))) rfl
theorem ac_c : Cond.arrayClass .char ∈ gx_F := gx_F_in (tb_1 (List.mem_of_getElem? (i := 230) (by decide +kernel))) rfl
theorem ac_z : Cond.arrayClass .boolean ∈ gx_F := gx_F_in (tb_4 (List.mem_of_getElem? (i := 133) (by decide +kernel))) rfl
theorem oi_im : Cond.instanceMethod Lib.objectInit ∈ gx_F := gx_F_in (tb_1 (List.mem_of_getElem? (i := 23) (by decide +kernel))) rfl
theorem oi_cd : Cond.code Lib.objectInit ⟨#[0xb1]⟩ 1 none ∈ gx_F := gx_F_in (tb_1 (List.mem_of_getElem? (i := 24) rfl)) rfl
theorem ao_in : Cond.arrayOver (.object "WeighedMachines$Machine") ∈ lw_tbl := tb_1 (List.mem_of_getElem? (i := 26) (by decide +kernel))
theorem gn_arr {U : State} {D : va_G} {dA : Nat → ClassId} {cA x : ClassId} {ty : FieldType} {j : Nat} (h : va_K D vw_Cl (gx_T dA ++ [(cA, ty)]) U) (hj : (gx_T dA)[j]? = some (x, ty)) : cA = x := by
  have hj2 := (List.getElem?_eq_some_iff.mp hj).1
  have h1 := (h.2 j (x, ty) (by rw [List.getElem?_append_left hj2]; exact hj)).2
  have h2 := (h.2 5 (cA, ty) rfl).2
  cases ty with
  | object C =>
    obtain ⟨_, _, _, _, _, e1⟩ := h1
    obtain ⟨_, _, _, _, _, e2⟩ := h2
    exact Option.some.inj (e2.symm.trans e1)
  | _ => exact Option.some.inj (Eq.trans (Eq.symm h2) h1)
section GN
variable {K : gx_K} {D : va_G} {dA : Nat → ClassId} {y : MethodName} {cc : ByteArray} {nL : Nat} {ret : Option FieldType} {d k n pc : Nat} {lv : List (Nat × Value)} {st : List Value} {ws : va_W} {Z : State → Prop}
theorem gn_newa (C : gx_C K D dA y cc nL ret d) {at0 : ArrayType} {ty : FieldType} {x : ClassId} {n0 : Int32} {N' : Nat} {a0 : vp_A} (j : Nat) (hj : (gx_T dA)[j]? = some (x, ty)) (hw : Cond.arrayClass ty ∈ gx_F) (hty : newarray.typeOf at0 = ty) (ha : ∀ cA : ClassId, vp_cell cA a0 = arrV cA N' (fun _ => defaultValue ty)) (hn : ¬ n0 < 0) (hN : n0.toNatClampNeg = N') (hby : N' * componentBytes ty ≤ 536870912) (hc : k + 1 ≤ (gx_R K).cells) (hs : n + N' ≤ (gx_R K).slots) (hd : decode cc pc = .ok (.newarray at0, 2)) (kk : ∀ q : Nat, gx_G K D nL (k + 1) (n + N') (pc + 2) lv (.ref q :: st) (ws ++ [(q, .inl (x, a0))]) Z) : gx_G K D nL k n pc lv (.int n0 :: st) ws Z := by
  obtain ⟨p, l, e, R, s, m, args, below, meth, c, A⟩ := K
  obtain ⟨hx, hb, hr, hlk, hml, hown, hnm, hts, hN2, hK, hA, hR1, hR2⟩ := C
  intro H locs ls hP hD hS hl
  exact va_newa hx hb (by rw [hty]; exact hts _ hw) hty hK hP hD hS hA ha hn hN hby hc hs hd (fun q cA H1 hK1 hP1 hD1 hS1 => by
    have e := gn_arr hK1 hj
    subst e
    exact kk q H1 locs ls hP1 hD1 hS1 hl)
theorem gn_newq (C : gx_C K D dA y cc nL ret d) (hao : va_AO "WeighedMachines$Machine" (gx_s K)) {index : Nat} {n0 : Int32} {N' : Nat} (hcl : Cond.classLink y.cls index "WeighedMachines$Machine" ∈ gx_F) (hn : ¬ n0 < 0) (hN : n0.toNatClampNeg = N') (hby : N' * 4 ≤ 536870912) (hc : k + 1 ≤ (gx_R K).cells) (hs : n + N' ≤ (gx_R K).slots) (hd : decode cc pc = .ok (.anewarray index, 3)) (kk : ∀ q : Nat, gx_G K D nL (k + 1) (n + N') (pc + 3) lv (.ref q :: st) (ws ++ [(q, .inl (dA 4, N', .inr (.inr (.inr (.inr (fun _ => none))))))]) Z) : gx_G K D nL k n pc lv (.int n0 :: st) ws Z := by
  obtain ⟨p, l, e, R, s, m, args, below, meth, c, A⟩ := K
  obtain ⟨hx, hb, hr, hlk, hml, hown, hnm, hts, hN2, hK, hA, hR1, hR2⟩ := C
  intro H locs ls hP hD hS hl
  exact va_newq hx hb hown (hts _ hcl) hao hK hP hD hS hA hn hN hby hc hs hd (fun q cA H1 hK1 hP1 hD1 hS1 => by
    have e := gn_arr (j := 4) hK1 rfl
    subst e
    exact kk q H1 locs ls hP1 hD1 hS1 hl)
theorem gn_new (C : gx_C K D dA y cc nL ret d) {C0 : String} {T : u_T} {N ci index : Nat} {ty : Nat → FieldType} {fs : List Value} (hc : vw_Cl[ci]? = some (C0, T, N)) (hin : ∀ w ∈ u_ws C0 T N, w ∈ gx_F) (hty : ∀ k, k < N → parseFieldDescriptor (T k).2.2.1 = some (ty k)) (hcl : Cond.classLink y.cls index C0 ∈ gx_F) (hinst : Cond.instantiable C0 N ∈ gx_F) (hini : Cond.initialized C0 ∈ gx_F) (hfs : ∀ j, j < N → defaultValue (ty j) = vp_V fs j) (h1 : k + 1 ≤ (gx_R K).cells) (h2 : n + N ≤ (gx_R K).slots) (hd : decode cc pc = .ok (.new index, 3)) (kk : ∀ q : Nat, gx_G K D nL (k + 1) (n + N) (pc + 3) lv (.ref q :: st) (ws ++ [(q, .inr (ci, fs))]) Z) : gx_G K D nL k n pc lv st ws Z := by
  obtain ⟨p, l, e, R, s, m, args, below, meth, c, A⟩ := K
  obtain ⟨hx, hb, hr, hlk, hml, hown, hnm, hts, hN2, hK, hA, hR1, hR2⟩ := C
  intro H locs ls hP hD hS hl
  exact va_new hx hb hts hin ty hty hown (hts _ hcl) (hts _ hinst) (hts _ hini) hK hP hD hS hA hc hfs h1 h2 hd (fun q H1 hP1 hD1 hS1 => kk q H1 locs ls hP1 hD1 hS1 hl)
theorem gn_obj (C : gx_C K D dA y cc nL ret d) {idx a : Nat} (hlk : Cond.methodLink y.cls idx Lib.objectInit ∈ gx_F) (hd : decode cc pc = .ok (.invokespecial idx, 3)) (hd1 : 1 ≤ d) (hcat : (st.map fun v => v.category).sum ≤ 8 := by exact Nat.le_of_ble_eq_true rfl) (kk : gx_G K D nL k n (pc + 3) lv st ws Z) : gx_G K D nL k n pc lv (.ref a :: st) ws Z := by
  obtain ⟨p, l, e, R, s, m, args, below, meth, c, A⟩ := K
  obtain ⟨hx, hb, hr, hlk2, hml, hown, hnm, hts, hN2, hK, hA, hR1, hR2⟩ := C
  intro H locs ls hP hD hS hl
  refine W.objInit hx hb hown (hts _ hlk) (hts _ oi_im) (hts _ oi_cd) (g := F0 m pc ls (.ref a :: st)) rfl (by rw [hml]; exact hl.1) rfl hd (by omega) (by show 2 * 0 + (st.map fun v => v.category).sum + 12 ≤ R.locals; omega) ?_
  exact kk H locs ls hP hD hS hl
theorem gn_callI (C : gx_C K D dA y cc nL ret d) {idx b : Nat} {y2 : MethodName} {cc2 : ByteArray} {nL2 : Nat} {d2 mc ms np : Nat} {Q : Option Value → va_W → Prop} {As rest : List Value} (hM : gx_Ct (gx_l K) D dA y2 cc2 nL2 none d2 mc ms (.ref b :: As) ws Q) (hm : gx_me y2 cc2 nL2 none np) (hsite : gx_ml y.cls idx y2) (hi : Cond.instanceMethod y2 ∈ gx_F) (hy2 : y2.name = "<init>") (hd : decode cc pc = .ok (.invokespecial idx, 3)) (hst : st = As.reverse ++ .ref b :: rest := by rfl) (hn : As.length = np := by rfl) (hdep : d2 + 1 ≤ d := by decide) (hcat : (rest.map fun v => v.category).sum ≤ 8 := by exact Nat.le_of_ble_eq_true rfl) (hf : k + mc ≤ (gx_R K).cells ∧ n + ms ≤ (gx_R K).slots)
    (kk : ∀ (v : Option Value) (w : va_W), Q v w → gx_G K D nL (k + mc) (n + ms) (pc + 3) lv (v.toList ++ rest) w Z) : gx_G K D nL k n pc lv st ws Z := by
  obtain ⟨p, l, e, R, s, m, args, below, meth, c, A⟩ := K
  obtain ⟨hx, hb, hr, hlk, hml, hown, hnm, hts, hN, hK, hA, hR1, hR2⟩ := C
  intro H locs ls hP hD hS hl
  obtain ⟨h1, h2, h3, h4⟩ := hm
  have hR : (gx_rm d2 mc ms).frames + 1 ≤ R.frames ∧ 8 + (nL2 + 11) + (gx_rm d2 mc ms).locals ≤ R.locals := ⟨Nat.le_trans hdep hR1, by show 8 + (nL2 + 11) + 51 * d2 ≤ R.locals; omega⟩
  have hF := gx_own hD hS hA
  have hgo : ∀ U : State, U.heap = H → s.WarmedH U.vm → gx_Pc D dA ((.ref b :: As)) ws H.size ((.ref b :: As) : List Value).toArray U := fun U hU hW => ⟨rfl, by rw [hU], by rw [hU]; exact hP, va_K.moved hW.alike hK, hD.weaken (fun _ _ _ _ => trivial), hN.warm hW⟩
  have hend : ∀ (v : Option Value) (w : va_W) (H1 : Heap) (locs1 : List Loc), Q v w → va_P D vw_Cl w H1 → va_D (va_A ws H.size) w → va_S A s.heap H1 locs1 → W p l e R s m args below meth c H1 locs1 (k + mc) (n + ms) Z (F0 m (pc + 3) ls (v.toList ++ rest)) := fun v w H1 locs1 hq hP1 hD1 hS1 => kk v w hq H1 locs1 ls hP1 (hD1.weaken (fun _ q _ h => hF q.1 h)) hS1 hl
  subst hst
  rcases hsite with hk | ⟨h, hk⟩
  · exact gx_go (va_runI (As := As) (rest := rest) ⟨hx, hb, hml, hown, hts⟩ (hM H.size) ⟨callB_of np hts (gx_good h1) rfl rfl rfl (hts _ h2) (hts _ hk) h3 hR, hy2, hts _ hi⟩ ⟨gx_blind, hgo⟩ rfl hn hl.1 rfl (lv_room hcat) hd hf) hS (fun q _ h => hF q h) hF hend
  · exact gx_go (va_runIN (As := As) (rest := rest) ⟨hx, hb, hml, hown, hts⟩ (hM H.size) ⟨va_cnB np hts (gx_good h1) rfl rfl rfl (hN _ hk rfl) (hts _ h2) h3 hR, hy2, hts _ hi⟩ ⟨gx_blind, hgo⟩ rfl hn hl.1 rfl (lv_room hcat) hd hf) hS (fun q _ h => hF q h) hF hend
end GN
/-- a contract whose start also knows of the arrays of machines -/
def gx_PcA (D : va_G) (dA : Nat → ClassId) (av : List Value) (ws : va_W) (sz : Nat) : Array Value → State → Prop :=
  va_Pc av (fun U => U.heap.size = sz ∧ va_P D vw_Cl ws U.heap ∧ va_K D vw_Cl (gx_T dA) U ∧ va_D (fun _ => True) ws ∧ gx_N U ∧ va_AO "WeighedMachines$Machine" U)
def gx_CtA (l : Launch) (D : va_G) (dA : Nat → ClassId) (y : MethodName) (cc : ByteArray) (nL : Nat) (ret : Option FieldType) (d mc ms : Nat) (av : List Value) (ws : va_W) (Q : Option Value → va_W → Prop) : Prop :=
  ∀ sz : Nat, Met l y (Cond.code y cc nL ret :: gx_F) (gx_rm d mc ms) (gx_PcA D dA av ws sz) (gx_Q D dA Q (va_A ws sz)) mc ms (va_A ws sz)
theorem gx_ofA {l : Launch} {D : va_G} {dA : Nat → ClassId} {y : MethodName} {cc : ByteArray} {nL : Nat} {ret : Option FieldType} {d mc ms : Nat} {av : List Value} {ws : va_W} {Q : Option Value → va_W → Prop}
    (hy : plainName y.cls = true) (hlen : (lg_sl av).length ≤ nL)
    (body : ∀ K : gx_K, gx_C K D dA y cc nL ret d → va_AO "WeighedMachines$Machine" (gx_s K) → (gx_R K).cells = mc → (gx_R K).slots = ms → gx_G K D nL 0 0 0 (lv_args 0 av) [] ws (gx_Z K D dA mc ms Q)) :
    gx_CtA l D dA y cc nL ret d mc ms av ws Q := by
  intro sz
  refine Met.ofW (cc := cc) (maxL := nL) (ret := ret) hy rfl ?_
  intro p e s m args below meth c s₁ B hml hv
  obtain ⟨rfl, hsz, hP, hK, hD0, hN, hao⟩ := hv
  have hts := atoms_spec (ws := Cond.code y cc nL ret :: gx_F) B.pre
  have hown : s.vm.findClass y.cls = some m.cls := findClass_of_methodNamed B.named
  have hnm : meth.name = y.name := (name_of_methodNamed B.named B.method).1
  subst hsz
  have hD := hD0.self (sz := s.heap.size)
  generalize hAe : va_A ws s.heap.size = A at hD ⊢
  have hA : ∀ q : Nat, s.heap.size ≤ q → A q := fun q h => by rw [← hAe]; exact Or.inr h
  have hl := lv_entry av (n := nL) hlen
  rw [lg_entry_eq]
  generalize (lg_sl av ++ List.replicate (nL - (lg_sl av).length) Slot.unset).toArray = ls at hl ⊢
  exact body (p, l, e, gx_rm d mc ms, s, m, av.toArray, below, meth, c, A) ⟨B.exec, B.bytes, B.returns, B.notSynchronized, hml, hown, hnm, fun w hw => hts w (List.mem_cons_of_mem _ hw), hN, hK, hA, Nat.le_refl _, Nat.le_refl _⟩ hao rfl rfl s.heap [] ls hP hD va_S.rf hl
theorem gx_blindA {D : va_G} {dA : Nat → ClassId} {av : List Value} {ws : va_W} {sz : Nat} : FrameBlind (gx_PcA D dA av ws sz) := by
  intro a U g mk q
  obtain ⟨q0, q1, qP, qK, qD, qN, qA⟩ := q
  exact ⟨q0, q1, qP, va_K.moved (u := U) (U := U.calling g mk a) (Vm.Alike.refl U.vm) qK, qD, gx_N.same (s := U) (U := U.calling g mk a) rfl qN, va_AO.moved (u := U) (U := U.calling g mk a) (Vm.Alike.refl U.vm) qA⟩
theorem gn_callIA {K : gx_K} {D : va_G} {dA : Nat → ClassId} {y : MethodName} {cc : ByteArray} {nL : Nat} {ret : Option FieldType} {d k n pc : Nat} {lv : List (Nat × Value)} {st : List Value} {ws : va_W} {Z : State → Prop} (C : gx_C K D dA y cc nL ret d) (hao : va_AO "WeighedMachines$Machine" (gx_s K)) {idx b : Nat} {y2 : MethodName} {cc2 : ByteArray} {nL2 : Nat} {d2 mc ms np : Nat} {Q : Option Value → va_W → Prop} {As rest : List Value} (hM : gx_CtA (gx_l K) D dA y2 cc2 nL2 none d2 mc ms (.ref b :: As) ws Q) (hm : gx_me y2 cc2 nL2 none np) (hk : Cond.methodLink y.cls idx y2 ∈ gx_F) (hi : Cond.instanceMethod y2 ∈ gx_F) (hy2 : y2.name = "<init>") (hd : decode cc pc = .ok (.invokespecial idx, 3)) (hst : st = As.reverse ++ .ref b :: rest := by rfl) (hn : As.length = np := by rfl) (hdep : d2 + 1 ≤ d := by decide) (hcat : (rest.map fun v => v.category).sum ≤ 8 := by exact Nat.le_of_ble_eq_true rfl) (hf : k + mc ≤ (gx_R K).cells ∧ n + ms ≤ (gx_R K).slots)
    (kk : ∀ (v : Option Value) (w : va_W), Q v w → gx_G K D nL (k + mc) (n + ms) (pc + 3) lv (v.toList ++ rest) w Z) : gx_G K D nL k n pc lv st ws Z := by
  obtain ⟨p, l, e, R, s, m, args, below, meth, c, A⟩ := K
  obtain ⟨hx, hb, hr, hlk, hml, hown, hnm, hts, hN, hK, hA, hR1, hR2⟩ := C
  intro H locs ls hP hD hS hl
  obtain ⟨h1, h2, h3, h4⟩ := hm
  have hR : (gx_rm d2 mc ms).frames + 1 ≤ R.frames ∧ 8 + (nL2 + 11) + (gx_rm d2 mc ms).locals ≤ R.locals := ⟨Nat.le_trans hdep hR1, by show 8 + (nL2 + 11) + 51 * d2 ≤ R.locals; omega⟩
  have hF := gx_own hD hS hA
  have hgo : ∀ U : State, U.heap = H → s.WarmedH U.vm → gx_PcA D dA ((.ref b :: As)) ws H.size ((.ref b :: As) : List Value).toArray U := fun U hU hW => ⟨rfl, by rw [hU], by rw [hU]; exact hP, va_K.moved hW.alike hK, hD.weaken (fun _ _ _ _ => trivial), hN.warm hW, va_AO.moved hW.alike hao⟩
  have hend : ∀ (v : Option Value) (w : va_W) (H1 : Heap) (locs1 : List Loc), Q v w → va_P D vw_Cl w H1 → va_D (va_A ws H.size) w → va_S A s.heap H1 locs1 → W p l e R s m args below meth c H1 locs1 (k + mc) (n + ms) Z (F0 m (pc + 3) ls (v.toList ++ rest)) := fun v w H1 locs1 hq hP1 hD1 hS1 => kk v w hq H1 locs1 ls hP1 (hD1.weaken (fun _ q _ h => hF q.1 h)) hS1 hl
  subst hst
  exact gx_go (va_runI (As := As) (rest := rest) ⟨hx, hb, hml, hown, hts⟩ (hM H.size) ⟨callB_of np hts (gx_good h1) rfl rfl rfl (hts _ h2) (hts _ hk) h3 hR, hy2, hts _ hi⟩ ⟨gx_blindA, hgo⟩ rfl hn hl.1 rfl (lv_room hcat) hd hf) hS (fun q _ h => hF q h) hF hend
/-- worlds that grow at their end -/
theorem gn_a0 {ws t : va_W} {x : Nat × va_E} : (ws ++ x :: t)[ws.length]? = some x := by simp
theorem gn_a1 {ws t : va_W} {x y : Nat × va_E} : (ws ++ x :: y :: t)[ws.length + 1]? = some y := by simp
theorem gn_a2 {ws t : va_W} {x y z : Nat × va_E} : (ws ++ x :: y :: z :: t)[ws.length + 2]? = some z := by simp
theorem gn_a3 {ws t : va_W} {x y z u : Nat × va_E} : (ws ++ x :: y :: z :: u :: t)[ws.length + 3]? = some u := by simp
theorem gn_s0 {ws t : va_W} {x x2 : Nat × va_E} : (ws ++ x :: t).set ws.length x2 = ws ++ x2 :: t := by simp [List.set_append_right]
theorem gn_s1 {ws t : va_W} {x y y2 : Nat × va_E} : (ws ++ x :: y :: t).set (ws.length + 1) y2 = ws ++ x :: y2 :: t := by simp [List.set_append_right]
theorem gn_p1 {ws : va_W} {x y : Nat × va_E} {t : va_W} : (ws ++ x :: t) ++ [y] = ws ++ x :: (t ++ [y]) := by simp
