/-! ===== the abstract heap: numbered cells, ints and references apart; the machine's rows over it ===== -/
abbrev xa_EV : Type := Launch × va_G × (Nat → ClassId)
abbrev xa_AH : Type := Nat → Nat → Int32
abbrev xa_AR : Type := Nat → Nat → Option Nat
abbrev xa_ZC : Type := (State → Array Value → List Frame → (Nat → Nat) → State → Prop) × (State → (Nat → Nat) → Prop) × List Nat × (Nat → Prop)
def xa_kd (a : Nat) : Nat := xa_kT.getD (a % 256) 99
def xa_ln (a : Nat) : Nat := xa_lT.getD (a % 256) 0
def xa_isR (c k : Nat) : Bool := (xa_rT.getD c []).getD k false
def xa_cv (al : Nat → Nat) (v : Value) : Value := match v with
  | .ref a => .ref (al a)
  | w => w
theorem xa_cv_cat (al : Nat → Nat) (v : Value) : (xa_cv al v).category = v.category := by cases v <;> rfl
theorem xa_cv_rf (al : Nat → Nat) (o : Option Nat) : xa_cv al (va_rf o) = va_rf (o.map al) := by cases o <;> rfl
def xa_sv (al : Nat → Nat) (hi : xa_AH) (hr : xa_AR) (a k : Nat) : Value := if xa_isR (xa_kd a) k = true then va_rf ((hr a k).map al) else .int (hi a k)
def xa_en (dA : Nat → ClassId) (al : Nat → Nat) (hi : xa_AH) (hr : xa_AR) (a : Nat) : va_E :=
  if xa_kd a < 9 then .inr (xa_kd a, (List.range (xa_nT.getD (xa_kd a) 0)).map (xa_sv al hi hr a))
  else if xa_kd a < 11 then .inl (dA (xa_kd a), xa_ln a, .inl (hi a))
  else .inl (dA (xa_kd a), xa_ln a, .inr (.inr (.inr (.inr (fun j => (hr a j).map al)))))
def xa_wd (dA : Nat → ClassId) (al : Nat → Nat) (L : List Nat) (hi : xa_AH) (hr : xa_AR) : va_W := L.map (fun a => (al a, xa_en dA al hi hr a))
def xa_up (h : xa_AH) (a k : Nat) (v : Int32) : xa_AH := fun x y => if x = a ∧ y = k then v else h x y
def xa_upr (h : xa_AR) (a k : Nat) (v : Option Nat) : xa_AR := fun x y => if x = a ∧ y = k then v else h x y
abbrev xa_tys (dA : Nat → ClassId) : List (ClassId × FieldType) := [(dA 9, .int), (dA 10, .boolean), (dA 11, .object "WhoIsThere$Host"), (dA 12, .object "WhoIsThere$Service")]
def xa_nest : List Cond := tables_1.filter (fun w => match w with | .methodLinkNest .. => true | _ => false)
def xa_K (E : xa_EV) (U : State) : Prop := va_K E.2.1 xa_cl (xa_tys E.2.2) U ∧ (∀ w ∈ xa_nest, va_Nw w U) ∧ va_AO "WhoIsThere$Host" U ∧ va_AO "WhoIsThere$Service" U
theorem xa_nest_is {w : Cond} (h : w ∈ xa_nest) : ∃ a i x b, w = .methodLinkNest a i x b := by
  have h1 := (List.mem_filter.mp h).2
  cases w <;> first | exact ⟨_, _, _, _, rfl⟩ | (simp at h1)
theorem xa_K.warm {E : xa_EV} {s U : State} (hW : s.WarmedH U.vm) (h : xa_K E s) : xa_K E U := by
  refine ⟨h.1.moved hW.alike, fun w hw => ?_, h.2.2.1.moved hW.alike, h.2.2.2.moved hW.alike⟩
  obtain ⟨a, i, x, b, rfl⟩ := xa_nest_is hw
  exact (h.2.1 _ hw).warmM hW
theorem xa_K.same {E : xa_EV} {s U : State} (hv : s.vm = U.vm) (h : xa_K E s) : xa_K E U := by
  have ha : s.vm.Alike U.vm := by rw [hv]; exact Vm.Alike.refl _
  refine ⟨h.1.moved ha, fun w hw => ?_, h.2.2.1.moved ha, h.2.2.2.moved ha⟩
  obtain ⟨a, i, x, b, rfl⟩ := xa_nest_is hw
  exact va_Nw.same rfl hv (h.2.1 _ hw)
def xa_own (al : Nat → Nat) (L : List Nat) (sz : Nat) : Nat → Prop := fun q => (∃ a, a ∈ L ∧ q = al a) ∨ sz ≤ q
def xa_lv (al : Nat → Nat) (nL : Nat) (ls : List (Option Value)) (lm : Array Slot) : Prop := ∃ lv : List (Nat × Value), lv_has lm nL lv ∧ (∀ q ∈ lv, q.2.category = 1) ∧ ∀ (i : Nat) (v : Value), ls[i]? = some (some v) → (i, xa_cv al v) ∈ lv
def xa_cx (E : xa_EV) (M : xa_MC) (Z : xa_ZC) (p : Program) (s : State) (m : MethodId) (args : Array Value) (meth : Method) (c : Code) (al0 : Nat → Nat) : Prop :=
  p.tables.exec = Jvm.exec ∧ c.code = M.2.1 ∧ meth.sig.returnType = M.2.2.2.1 ∧ c.maxLocals = M.2.2.1 ∧ s.vm.findClass M.1.cls = some m.cls ∧ (∀ w ∈ xa_G, w.before args s = true) ∧ meth.locks = false ∧ meth.name = M.1.name ∧ xa_K E s ∧ Z.2.1 s al0
/-- the machine, at pc of the method M, with these locals, stack and cells, comes to the end that Z tells; kc cells of ks slots may still come -/
def xa_W (E : xa_EV) (M : xa_MC) (Z : xa_ZC) (kc ks pc : Nat) (ls : List (Option Value)) (st : List Value) (L : List Nat) (hi : xa_AH) (hr : xa_AR) : Prop :=
  ∀ (p : Program) (e : Env) (s : State) (m : MethodId) (args : Array Value) (below : List Frame) (meth : Method) (c : Code) (al0 al : Nat → Nat) (H : Heap) (locs : List Loc) (cells slots : Nat) (lm : Array Slot),
    xa_cx E M Z p s m args meth c al0 → (∀ a, Z.2.2.2 a → al a = al0 a) → va_P E.2.1 xa_cl (xa_wd E.2.2 al L hi hr) H → va_D (xa_own al0 Z.2.2.1 s.heap.size) (xa_wd E.2.2 al L hi hr) → va_S (xa_own al0 Z.2.2.1 s.heap.size) s.heap H locs → xa_lv al M.2.2.1 ls lm →
    cells + kc ≤ M.2.2.2.2.cells → slots + ks ≤ M.2.2.2.2.slots → W p E.1 e M.2.2.2.2 s m args below meth c H locs cells slots (Z.1 s args below al0) (F0 m pc lm (st.map (xa_cv al)))
theorem xa_get? {dA : Nat → ClassId} {al : Nat → Nat} {L : List Nat} {hi : xa_AH} {hr : xa_AR} {a : Nat} (ha : a ∈ L) : ∃ q0 : Nat, L[q0]? = some a ∧ (xa_wd dA al L hi hr)[q0]? = some (al a, xa_en dA al hi hr a) := by
  obtain ⟨q0, h⟩ := List.getElem?_of_mem ha
  exact ⟨q0, h, by simp [xa_wd, h]⟩
theorem xa_inj {dA : Nat → ClassId} {al : Nat → Nat} {L : List Nat} {hi : xa_AH} {hr : xa_AR} {A : Nat → Prop} (hD : va_D A (xa_wd dA al L hi hr)) {a b : Nat} (ha : a ∈ L) (hb : b ∈ L) (h : al a = al b) : a = b := by
  obtain ⟨i, h1, h2⟩ := xa_get? (dA := dA) (al := al) (hi := hi) (hr := hr) ha
  obtain ⟨j, h3, h4⟩ := xa_get? (dA := dA) (al := al) (hi := hi) (hr := hr) hb
  have e := hD.1 i j _ _ h2 h4 h
  subst e
  exact Option.some.inj (h1.symm.trans h3)
theorem xa_setw {dA : Nat → ClassId} {al : Nat → Nat} {L : List Nat} {hi hi' : xa_AH} {hr hr' : xa_AR} {A : Nat → Prop} (hD : va_D A (xa_wd dA al L hi hr)) {a q0 : Nat} {e : va_E} (hq : L[q0]? = some a) (ho : ∀ b, b ≠ a → xa_en dA al hi' hr' b = xa_en dA al hi hr b) (he : xa_en dA al hi' hr' a = e) : (xa_wd dA al L hi hr).set q0 (al a, e) = xa_wd dA al L hi' hr' := by
  have hl : q0 < (xa_wd dA al L hi hr).length := by
    have := (List.getElem?_eq_some_iff.mp hq).1
    simpa [xa_wd] using this
  apply List.ext_getElem?
  intro j
  by_cases hj : j = q0
  · subst hj
    rw [List.getElem?_set_self hl]
    simp [xa_wd, hq, he]
  · rw [List.getElem?_set_ne (Ne.symm hj)]
    simp only [xa_wd, List.getElem?_map]
    cases hb : L[j]? with
    | none => rfl
    | some b =>
      have hne : b ≠ a := by
        intro hba
        subst hba
        exact hj (hD.1 j q0 (al b, xa_en dA al hi hr b) (al b, xa_en dA al hi hr b) (by simp [xa_wd, hb]) (by simp [xa_wd, hq]) rfl)
      simp [ho b hne]
theorem xa_D_same {dA : Nat → ClassId} {al : Nat → Nat} {L : List Nat} {hi hi' : xa_AH} {hr hr' : xa_AR} {A : Nat → Prop} (hD : va_D A (xa_wd dA al L hi hr)) : va_D A (xa_wd dA al L hi' hr') := by
  have key : ∀ (k : Nat) (q : Nat × va_E), (xa_wd dA al L hi' hr')[k]? = some q → ∃ q0, (xa_wd dA al L hi hr)[k]? = some q0 ∧ q0.1 = q.1 := by
    intro k q hk
    simp only [xa_wd, List.getElem?_map] at hk ⊢
    cases hb : L[k]? with
    | none => rw [hb] at hk; cases hk
    | some b => rw [hb] at hk; cases hk; exact ⟨_, rfl, rfl⟩
  refine ⟨fun i j x y h1 h2 h3 => ?_, fun k q hk => ?_⟩
  · obtain ⟨x0, g1, g2⟩ := key i x h1
    obtain ⟨y0, g3, g4⟩ := key j y h2
    exact hD.1 i j x0 y0 g1 g3 (by rw [g2, g4]; exact h3)
  · obtain ⟨q0, g1, g2⟩ := key k q hk
    rw [← g2]
    exact hD.2 k q0 g1
theorem xa_lv_st {al : Nat → Nat} {nL : Nat} {ls : List (Option Value)} {lm' : Array Slot} {lv : List (Nat × Value)} {i : Nat} {v : Value} (h2 : ∀ q ∈ lv, q.2.category = 1) (h3 : ∀ (i : Nat) (v : Value), ls[i]? = some (some v) → (i, xa_cv al v) ∈ lv) (hc : v.category = 1)
    (h' : lv_has lm' nL ((i, xa_cv al v) :: lv.filter (fun q => !(q.1 == i) && !(q.1 + 1 == i && q.2.category == 2)))) : xa_lv al nL (ls.set i (some v)) lm' := by
  refine ⟨_, h', fun q hq => ?_, fun j w hw => ?_⟩
  · rcases List.mem_cons.mp hq with rfl | hq
    · show (xa_cv al v).category = 1
      rw [xa_cv_cat]; exact hc
    · exact h2 q (List.mem_filter.mp hq).1
  · by_cases hj : j = i
    · subst hj
      by_cases hl : j < ls.length
      · rw [List.getElem?_set_self hl] at hw
        cases hw
        exact List.mem_cons_self
      · rw [List.set_eq_of_length_le (by omega)] at hw
        have := (List.getElem?_eq_some_iff.mp hw).1
        omega
    · rw [List.getElem?_set_ne (Ne.symm hj)] at hw
      have h1 := h3 j w hw
      refine List.mem_cons_of_mem _ (List.mem_filter.mpr ⟨h1, ?_⟩)
      have hcw := h2 _ h1
      simp [hj, hcw]
/-- a field's link: own class, pool index, class number and slot of the field -/
def xa_FL (own : String) (idx ci kf : Nat) : Prop := ∃ (C : String) (T : u_T) (N : Nat), xa_cl[ci]? = some (C, T, N) ∧ N = xa_nT.getD ci 0 ∧ (∀ w ∈ u_ws C T N, w ∈ xa_G) ∧ kf < N ∧ Cond.fieldLink own idx (T kf).1 (T kf).2.1 (T kf).2.2.1 ∈ xa_G
/-- a field that may be written: not final, its type -/
def xa_FP (own : String) (idx ci kf : Nat) (ty : FieldType) : Prop := ∃ (C : String) (T : u_T) (N : Nat) (ty0 : Nat → FieldType), xa_cl[ci]? = some (C, T, N) ∧ N = xa_nT.getD ci 0 ∧ (∀ w ∈ u_ws C T N, w ∈ xa_G) ∧ kf < N ∧ Cond.fieldLink own idx (T kf).1 (T kf).2.1 (T kf).2.2.1 ∈ xa_G ∧
  (∀ k, k < N → parseFieldDescriptor (T k).2.2.1 = some (ty0 k)) ∧ (∀ a, a < N → ∀ b, b < N → a ≠ b → (T a).2.1 ≠ (T b).2.1) ∧ (T kf).2.2.2 = false ∧ parseFieldDescriptor (T kf).2.2.1 = some ty
/-- a final field, in its class's constructor -/
def xa_FF (own : String) (idx ci kf : Nat) (ty : FieldType) : Prop := ∃ (C : String) (T : u_T) (N : Nat) (ty0 : Nat → FieldType), xa_cl[ci]? = some (C, T, N) ∧ N = xa_nT.getD ci 0 ∧ (∀ w ∈ u_ws C T N, w ∈ xa_G) ∧ kf < N ∧ Cond.fieldLink own idx (T kf).1 (T kf).2.1 (T kf).2.2.1 ∈ xa_G ∧
  (∀ k, k < N → parseFieldDescriptor (T k).2.2.1 = some (ty0 k)) ∧ (∀ a, a < N → ∀ b, b < N → a ≠ b → (T a).2.1 ≠ (T b).2.1) ∧ (T kf).2.2.2 = true ∧ (T kf).1 = own ∧ parseFieldDescriptor (T kf).2.2.1 = some ty
theorem xa_ci {ci : Nat} {q : vw_C} (h : xa_cl[ci]? = some q) : ci < 9 := (List.getElem?_eq_some_iff.mp h).1
theorem xa_en_o {dA : Nat → ClassId} {al : Nat → Nat} {hi : xa_AH} {hr : xa_AR} {a ci : Nat} (hk : xa_kd a = ci) (hc : ci < 9) : xa_en dA al hi hr a = .inr (ci, (List.range (xa_nT.getD ci 0)).map (xa_sv al hi hr a)) := by
  subst hk
  simp [xa_en, hc]
theorem xa_en_i {dA : Nat → ClassId} {al : Nat → Nat} {hi : xa_AH} {hr : xa_AR} {a : Nat} (hk : xa_kd a = 9) : xa_en dA al hi hr a = .inl (dA 9, xa_ln a, .inl (hi a)) := by
  simp [xa_en, hk]
theorem xa_en_z {dA : Nat → ClassId} {al : Nat → Nat} {hi : xa_AH} {hr : xa_AR} {a : Nat} (hk : xa_kd a = 10) : xa_en dA al hi hr a = .inl (dA 10, xa_ln a, .inl (hi a)) := by
  simp [xa_en, hk]
theorem xa_en_r {dA : Nat → ClassId} {al : Nat → Nat} {hi : xa_AH} {hr : xa_AR} {a k : Nat} (hk : xa_kd a = k) (h1 : ¬ k < 11) : xa_en dA al hi hr a = .inl (dA k, xa_ln a, .inr (.inr (.inr (.inr (fun j => (hr a j).map al))))) := by
  subst hk
  have h2 : ¬ xa_kd a < 9 := by omega
  simp [xa_en, h1, h2]
theorem xa_en_up {dA : Nat → ClassId} {al : Nat → Nat} {hi : xa_AH} {hr : xa_AR} {a k : Nat} {v : Int32} (b : Nat) (h : b ≠ a) : xa_en dA al (xa_up hi a k v) hr b = xa_en dA al hi hr b := by
  have e : (xa_up hi a k v) b = hi b := by funext y; simp [xa_up, h]
  have e2 : xa_sv al (xa_up hi a k v) hr b = xa_sv al hi hr b := by funext y; simp [xa_sv, e]
  simp [xa_en, e, e2]
theorem xa_en_upr {dA : Nat → ClassId} {al : Nat → Nat} {hi : xa_AH} {hr : xa_AR} {a k : Nat} {v : Option Nat} (b : Nat) (h : b ≠ a) : xa_en dA al hi (xa_upr hr a k v) b = xa_en dA al hi hr b := by
  have e : (xa_upr hr a k v) b = hr b := by funext y; simp [xa_upr, h]
  have e2 : xa_sv al hi (xa_upr hr a k v) b = xa_sv al hi hr b := by funext y; simp [xa_sv, e]
  simp [xa_en, e, e2]
theorem xa_rng_set {N k : Nat} (hk : k < N) (f g : Nat → Value) (v : Value) (h1 : g k = v) (h2 : ∀ j, j ≠ k → g j = f j) : ((List.range N).map f).set k v = (List.range N).map g := by
  apply List.ext_getElem?
  intro j
  by_cases hj : j = k
  · subst hj
    rw [List.getElem?_set_self (by simpa using hk)]
    simp [hk, h1]
  · rw [List.getElem?_set_ne (Ne.symm hj)]
    simp only [List.getElem?_map]
    cases hb : (List.range N)[j]? with
    | none => rfl
    | some b =>
      have : b = j := by
        obtain ⟨h3, h4⟩ := List.getElem?_eq_some_iff.mp hb
        simpa using h4.symm
      subst this
      simp [h2 b hj]
theorem xa_own_new {al : Nat → Nat} {L : List Nat} {sz : Nat} : ∀ q : Nat, sz ≤ q → xa_own al L sz q := fun _ h => Or.inr h
