/-! ===== contracts over the abstract heap; calls; ends; new cells ===== -/
def xa_Qc (E : xa_EV) (al0 : Nat → Nat) (L0 : List Nat) (sz : Nat) (Post : Option Value → xa_AH → xa_AR → Prop) : Array Value → State → Outcome → State → Prop := fun _ st oc t =>
  (∃ (r : Option Value) (hi' : xa_AH) (hr' : xa_AR), oc = .returned (r.map (xa_cv al0)) ∧ Post r hi' hr' ∧ va_P E.2.1 xa_cl (xa_wd E.2.2 al0 L0 hi' hr') t.heap) ∧ va_F (xa_own al0 L0 sz) st t
def xa_Z (E : xa_EV) (M : xa_MC) (L0 : List Nat) (Post : Option Value → xa_AH → xa_AR → Prop) : xa_ZC :=
  (fun s args below al0 => MQ below (xa_Qc E al0 L0 s.heap.size Post) args s M.2.2.2.2.cells M.2.2.2.2.slots (xa_own al0 L0 s.heap.size), fun _ _ => True, L0, fun _ => True)
abbrev xa_ws (M : xa_MC) : List Cond := Cond.code M.1 M.2.1 M.2.2.1 M.2.2.2.1 :: xa_G
abbrev xa_Pc (E : xa_EV) (as : List Value) (L : List Nat) (hi : xa_AH) (hr : xa_AR) (al : Nat → Nat) (sz : Nat) : Array Value → State → Prop := va_Pc (as.map (xa_cv al)) (fun U => U.heap.size = sz ∧ va_P E.2.1 xa_cl (xa_wd E.2.2 al L hi hr) U.heap ∧ va_D (fun _ => True) (xa_wd E.2.2 al L hi hr) ∧ xa_K E U)
/-- THE CONTRACT of a method that makes no cells -/
def xa_Ct (E : xa_EV) (M : xa_MC) (as : List Value) (L : List Nat) (hi : xa_AH) (hr : xa_AR) (Post : Option Value → xa_AH → xa_AR → Prop) : Prop :=
  ∀ (al : Nat → Nat) (sz : Nat), Met E.1 M.1 (xa_ws M) M.2.2.2.2 (xa_Pc E as L hi hr al sz) (xa_Qc E al L sz Post) M.2.2.2.2.cells M.2.2.2.2.slots (xa_own al L sz)
def xa_QcA (E : xa_EV) (al0 : Nat → Nat) (L0 : List Nat) (sz : Nat) (Post : Option Value → List Nat → xa_AH → xa_AR → Prop) : Array Value → State → Outcome → State → Prop := fun _ st oc t =>
  (∃ (al' : Nat → Nat) (r : Option Value) (L' : List Nat) (hi' : xa_AH) (hr' : xa_AR), (∀ a, a ∈ L0 → al' a = al0 a) ∧ oc = .returned (r.map (xa_cv al')) ∧ Post r L' hi' hr' ∧ va_P E.2.1 xa_cl (xa_wd E.2.2 al' L' hi' hr') t.heap ∧ va_D (xa_own al0 L0 sz) (xa_wd E.2.2 al' L' hi' hr')) ∧ va_F (xa_own al0 L0 sz) st t
def xa_ZA (E : xa_EV) (M : xa_MC) (L0 : List Nat) (Post : Option Value → List Nat → xa_AH → xa_AR → Prop) : xa_ZC :=
  (fun s args below al0 => MQ below (xa_QcA E al0 L0 s.heap.size Post) args s M.2.2.2.2.cells M.2.2.2.2.slots (xa_own al0 L0 s.heap.size), fun _ _ => True, L0, fun a => a ∈ L0)
/-- THE CONTRACT of a method that makes cells -/
def xa_CtA (E : xa_EV) (M : xa_MC) (as : List Value) (L : List Nat) (hi : xa_AH) (hr : xa_AR) (Post : Option Value → List Nat → xa_AH → xa_AR → Prop) : Prop :=
  ∀ (al : Nat → Nat) (sz : Nat), Met E.1 M.1 (xa_ws M) M.2.2.2.2 (xa_Pc E as L hi hr al sz) (xa_QcA E al L sz Post) M.2.2.2.2.cells M.2.2.2.2.slots (xa_own al L sz)
theorem xa_args_mem : ∀ (vs : List Value) (i : Nat), (∀ v ∈ vs, v.category = 1) → (∀ (j : Nat) (v : Value), vs[j]? = some v → (i + j, v) ∈ lv_args i vs) ∧ (∀ q ∈ lv_args i vs, q.2 ∈ vs)
  | [], i, _ => ⟨fun j v h => by simp at h, fun q h => by cases h⟩
  | w :: vs, i, hc => by
    have hw : w.category = 1 := hc w List.mem_cons_self
    obtain ⟨h1, h2⟩ := xa_args_mem vs (i + 1) (fun v hv => hc v (List.mem_cons_of_mem _ hv))
    have e : lv_args i (w :: vs) = (i, w) :: lv_args (i + 1) vs := by simp [lv_args, hw]
    rw [e]
    refine ⟨fun j v h => ?_, fun q h => ?_⟩
    · cases j with
      | zero => simp at h; subst h; exact List.mem_cons_self
      | succ j =>
        rw [List.getElem?_cons_succ] at h
        have h3 := h1 j v h
        rw [show i + 1 + j = i + (j + 1) by omega] at h3
        exact List.mem_cons_of_mem _ h3
    · rcases List.mem_cons.mp h with rfl | h
      · exact List.mem_cons_self
      · exact List.mem_cons_of_mem _ (h2 q h)
theorem xa_sl_len : ∀ (vs : List Value), (∀ v ∈ vs, v.category = 1) → (lg_sl vs).length = vs.length
  | [], _ => rfl
  | w :: vs, hc => by
    have hw : w.category = 1 := hc w List.mem_cons_self
    have h := xa_sl_len vs (fun v hv => hc v (List.mem_cons_of_mem _ hv))
    have e : lg_sl (w :: vs) = .val w :: lg_sl vs := by simp [lg_sl, hw]
    rw [e, List.length_cons, List.length_cons, h]
theorem xa_own_mem {dA : Nat → ClassId} {al : Nat → Nat} {L : List Nat} {hi : xa_AH} {hr : xa_AR} {A : Nat → Prop} {sz : Nat} (hD : va_D A (xa_wd dA al L hi hr)) : va_D (xa_own al L sz) (xa_wd dA al L hi hr) := by
  refine ⟨hD.1, fun k q hk => ?_⟩
  simp only [xa_wd, List.getElem?_map] at hk
  cases hb : L[k]? with
  | none => rw [hb] at hk; cases hk
  | some b => rw [hb] at hk; cases hk; exact Or.inl ⟨b, List.mem_of_getElem? hb, rfl⟩
theorem xa_entry {as : List Value} {ls : List (Option Value)} {nL : Nat} (al : Nat → Nat) (hn : as.length ≤ nL) (hcat : ∀ v ∈ as, v.category = 1) (hls : ls = as.map some ++ List.replicate (nL - as.length) none) : xa_lv al nL ls ((lg_sl (as.map (xa_cv al)) ++ List.replicate (nL - (lg_sl (as.map (xa_cv al))).length) Slot.unset).toArray) := by
  have hc2 : ∀ v ∈ as.map (xa_cv al), v.category = 1 := by
    intro v hv
    obtain ⟨w, hw, rfl⟩ := List.mem_map.mp hv
    rw [xa_cv_cat]; exact hcat w hw
  obtain ⟨h1, h2⟩ := xa_args_mem (as.map (xa_cv al)) 0 hc2
  refine ⟨lv_args 0 (as.map (xa_cv al)), lv_entry _ (by rw [xa_sl_len _ hc2, List.length_map]; exact hn), fun q hq => hc2 _ (h2 q hq), fun i v hv => ?_⟩
  have h3 : as[i]? = some v := by
    rw [hls] at hv
    by_cases hi : i < as.length
    · rw [List.getElem?_append_left (by simpa using hi), List.getElem?_map] at hv
      cases hb : as[i]? with
      | none => rw [hb] at hv; cases hv
      | some b => rw [hb] at hv; cases hv; rfl
    · rw [List.getElem?_append_right (by simpa using hi)] at hv
      have := List.eq_of_mem_replicate (List.mem_of_getElem? hv)
      cases this
  have h4 := h1 i (xa_cv al v) (by rw [List.getElem?_map, h3]; rfl)
  rwa [Nat.zero_add] at h4
theorem xa_Ct.of {E : xa_EV} {M : xa_MC} {as : List Value} {L : List Nat} {hi : xa_AH} {hr : xa_AR} {Post : Option Value → xa_AH → xa_AR → Prop} (ls : List (Option Value)) (hpl : plainName M.1.cls = true) (hn : as.length ≤ M.2.2.1) (hcat : ∀ v ∈ as, v.category = 1) (hls : ls = as.map some ++ List.replicate (M.2.2.1 - as.length) none)
    (walk : xa_W E M (xa_Z E M L Post) M.2.2.2.2.cells M.2.2.2.2.slots 0 ls [] L hi hr) : xa_Ct E M as L hi hr Post := by
  intro al sz
  refine Met.ofW (cc := M.2.1) (maxL := M.2.2.1) (ret := M.2.2.2.1) hpl rfl ?_
  intro p e s m args below meth c s₁ B hml hv
  obtain ⟨rfl, hsz, hP, hD, hK⟩ := hv
  subst hsz
  have hts := atoms_spec (ws := xa_ws M) B.pre
  have h0 : entryFrame m (as.map (xa_cv al)).toArray M.2.2.1 = _ := lg_entry_eq m (as.map (xa_cv al)) M.2.2.1
  rw [h0]
  exact walk p e s m _ below meth c al al s.heap [] 0 0 _ ⟨B.exec, B.bytes, B.returns, hml, findClass_of_methodNamed B.named, fun w hw => hts w (List.mem_cons_of_mem _ hw), B.notSynchronized, (name_of_methodNamed B.named B.method).1, hK, trivial⟩ (fun _ _ => rfl) hP (xa_own_mem hD) va_S.rf (xa_entry al hn hcat hls) (Nat.le_of_eq (Nat.zero_add _)) (Nat.le_of_eq (Nat.zero_add _))
theorem xa_CtA.of {E : xa_EV} {M : xa_MC} {as : List Value} {L : List Nat} {hi : xa_AH} {hr : xa_AR} {Post : Option Value → List Nat → xa_AH → xa_AR → Prop} (ls : List (Option Value)) (hpl : plainName M.1.cls = true) (hn : as.length ≤ M.2.2.1) (hcat : ∀ v ∈ as, v.category = 1) (hls : ls = as.map some ++ List.replicate (M.2.2.1 - as.length) none)
    (walk : xa_W E M (xa_ZA E M L Post) M.2.2.2.2.cells M.2.2.2.2.slots 0 ls [] L hi hr) : xa_CtA E M as L hi hr Post := by
  intro al sz
  refine Met.ofW (cc := M.2.1) (maxL := M.2.2.1) (ret := M.2.2.2.1) hpl rfl ?_
  intro p e s m args below meth c s₁ B hml hv
  obtain ⟨rfl, hsz, hP, hD, hK⟩ := hv
  subst hsz
  have hts := atoms_spec (ws := xa_ws M) B.pre
  have h0 : entryFrame m (as.map (xa_cv al)).toArray M.2.2.1 = _ := lg_entry_eq m (as.map (xa_cv al)) M.2.2.1
  rw [h0]
  exact walk p e s m _ below meth c al al s.heap [] 0 0 _ ⟨B.exec, B.bytes, B.returns, hml, findClass_of_methodNamed B.named, fun w hw => hts w (List.mem_cons_of_mem _ hw), B.notSynchronized, (name_of_methodNamed B.named B.method).1, hK, trivial⟩ (fun _ _ => rfl) hP (xa_own_mem hD) va_S.rf (xa_entry al hn hcat hls) (Nat.le_of_eq (Nat.zero_add _)) (Nat.le_of_eq (Nat.zero_add _))
/-! ends -/
section XA5
variable {E : xa_EV} {M : xa_MC} {kc ks pc : Nat} {ls : List (Option Value)} {st : List Value} {L : List Nat} {hi : xa_AH} {hr : xa_AR} {Post : Option Value → xa_AH → xa_AR → Prop} {PostA : Option Value → List Nat → xa_AH → xa_AR → Prop} {L0 : List Nat}
theorem xa_zret {v : Int32} {ty : FieldType} (hd : decode M.2.1 pc = .ok (.ireturn, 1)) (hrt : M.2.2.2.1 = some ty) (hn : narrow ty (.int v) = .int v) (hp : Post (some (.int v)) hi hr) : xa_W E M (xa_Z E M L Post) kc ks pc ls [.int v] L hi hr := by
  intro p e s m args below meth c al0 al H locs cells slots lm C hN hP hD hS hl hc hs
  have ea : al = al0 := funext fun a => hN a trivial
  subst ea
  refine W.widen (k := M.2.2.2.2.cells) (n := M.2.2.2.2.slots) (by omega) (by omega) ?_
  exact W.zret C.1 C.2.1 (C.2.2.1.trans hrt) hn (fun t ht hW => ⟨⟨some (.int v), hi, hr, rfl, hp, by rw [ht]; exact hP⟩, hS.F ht⟩) hS.2.2 hd (hlocks := C.2.2.2.2.2.2.1)
theorem xa_vret (hd : decode M.2.1 pc = .ok (.return_, 1)) (hrt : M.2.2.2.1 = none) (hp : Post none hi hr) : xa_W E M (xa_Z E M L Post) kc ks pc ls [] L hi hr := by
  intro p e s m args below meth c al0 al H locs cells slots lm C hN hP hD hS hl hc hs
  have ea : al = al0 := funext fun a => hN a trivial
  subst ea
  refine W.widen (k := M.2.2.2.2.cells) (n := M.2.2.2.2.slots) (by omega) (by omega) ?_
  exact W.vret C.1 C.2.1 (C.2.2.1.trans hrt) (fun t ht hW => ⟨⟨none, hi, hr, rfl, hp, by rw [ht]; exact hP⟩, hS.F ht⟩) hS.2.2 hd (hlocks := C.2.2.2.2.2.2.1)
theorem xa_aret (o : Option Nat) {n : String} (hd : decode M.2.1 pc = .ok (.areturn, 1)) (hrt : M.2.2.2.1 = some (.object n)) (hp : Post (some (va_rf o)) hi hr) : xa_W E M (xa_Z E M L Post) kc ks pc ls [va_rf o] L hi hr := by
  intro p e s m args below meth c al0 al H locs cells slots lm C hN hP hD hS hl hc hs
  have ea : al = al0 := funext fun a => hN a trivial
  subst ea
  refine W.widen (k := M.2.2.2.2.cells) (n := M.2.2.2.2.slots) (by omega) (by omega) ?_
  exact W.aret (v := xa_cv al (va_rf o)) C.1 C.2.1 (C.2.2.1.trans hrt) (Or.inl ⟨n, rfl⟩) (by rw [xa_cv_rf]; exact va_rf_or _) (fun t ht hW => ⟨⟨some (va_rf o), hi, hr, rfl, hp, by rw [ht]; exact hP⟩, hS.F ht⟩) hS.2.2 hd (hlocks := C.2.2.2.2.2.2.1)
theorem xa_zretA {v : Int32} {ty : FieldType} (hd : decode M.2.1 pc = .ok (.ireturn, 1)) (hrt : M.2.2.2.1 = some ty) (hn : narrow ty (.int v) = .int v) (hp : PostA (some (.int v)) L hi hr) : xa_W E M (xa_ZA E M L0 PostA) kc ks pc ls [.int v] L hi hr := by
  intro p e s m args below meth c al0 al H locs cells slots lm C hN hP hD hS hl hc hs
  refine W.widen (k := M.2.2.2.2.cells) (n := M.2.2.2.2.slots) (by omega) (by omega) ?_
  exact W.zret C.1 C.2.1 (C.2.2.1.trans hrt) hn (fun t ht hW => ⟨⟨al, some (.int v), L, hi, hr, hN, rfl, hp, by rw [ht]; exact hP, hD⟩, hS.F ht⟩) hS.2.2 hd (hlocks := C.2.2.2.2.2.2.1)
theorem xa_vretA (hd : decode M.2.1 pc = .ok (.return_, 1)) (hrt : M.2.2.2.1 = none) (hp : PostA none L hi hr) : xa_W E M (xa_ZA E M L0 PostA) kc ks pc ls [] L hi hr := by
  intro p e s m args below meth c al0 al H locs cells slots lm C hN hP hD hS hl hc hs
  refine W.widen (k := M.2.2.2.2.cells) (n := M.2.2.2.2.slots) (by omega) (by omega) ?_
  exact W.vret C.1 C.2.1 (C.2.2.1.trans hrt) (fun t ht hW => ⟨⟨al, none, L, hi, hr, hN, rfl, hp, by rw [ht]; exact hP, hD⟩, hS.F ht⟩) hS.2.2 hd (hlocks := C.2.2.2.2.2.2.1)
end XA5
/-! calls -/
/-- what a call's place needs of the tables -/
def xa_CB (M' : xa_MC) (n : Nat) : Prop := Cond.initialized M'.1.cls ∈ xa_G ∧ Cond.code M'.1 M'.2.1 M'.2.2.1 M'.2.2.2.1 ∈ xa_G ∧ (M'.1.cls ≠ "java/lang/invoke/MethodHandle" ∧ M'.1.cls ≠ "java/lang/invoke/VarHandle" ∧ (parseMethodDescriptor M'.1.desc).map (fun d => d.parameters.length) = some n)
def xa_CV (own : String) (idx : Nat) (M' : xa_MC) (n : Nat) : Prop := xa_CB M' n ∧ Cond.methodLink own idx M'.1 ∈ xa_G ∧ Cond.instanceMethod M'.1 ∈ xa_G ∧ Cond.selects M'.1.cls M'.1 M'.1 ∈ xa_G
def xa_CS (own : String) (idx : Nat) (M' : xa_MC) (n : Nat) : Prop := xa_CB M' n ∧ Cond.methodLink own idx M'.1 ∈ xa_G ∧ Cond.static M'.1 ∈ xa_G
def xa_CSN (own : String) (idx : Nat) (M' : xa_MC) (n : Nat) : Prop := xa_CB M' n ∧ (∃ h : String, Cond.methodLinkNest own idx M'.1 h ∈ xa_nest) ∧ Cond.static M'.1 ∈ xa_G
def xa_CI (own : String) (idx : Nat) (M' : xa_MC) (n : Nat) : Prop := xa_CB M' n ∧ Cond.methodLink own idx M'.1 ∈ xa_G ∧ M'.1.name = "<init>" ∧ Cond.instanceMethod M'.1 ∈ xa_G ∧ M'.2.2.2.1 = none
def xa_CIN (own : String) (idx : Nat) (M' : xa_MC) (n : Nat) : Prop := xa_CB M' n ∧ (∃ h : String, Cond.methodLinkNest own idx M'.1 h ∈ xa_nest) ∧ M'.1.name = "<init>" ∧ Cond.instanceMethod M'.1 ∈ xa_G ∧ M'.2.2.2.1 = none
theorem xa_goodw {M' : xa_MC} {n : Nat} (h : xa_CB M' n) : GoodIn xa_G (xa_ws M') := fun w hw => by
  rcases List.mem_cons.mp hw with rfl | hw
  · exact ⟨h.2.1, xa_good h.2.1⟩
  · exact ⟨hw, xa_good hw⟩
section XA6
variable {p : Program} {l : Launch} {e : Env} {R : Room} {s : State} {m : MethodId} {args : Array Value} {below : List Frame} {meth : Method} {c : Code} {H : Heap} {locs : List Loc} {cells slots : Nat} {Q : State → Prop} {pc : Nat} {lm : Array Slot} {st0 rest : List Value} {mc ms : Nat}
variable {E : xa_EV} {L : List Nat} {hi : xa_AH} {hr : xa_AR} {al : Nat → Nat} {A0 : Nat → Prop}
theorem xa_sub_own {dA : Nat → ClassId} (hD : va_D A0 (xa_wd dA al L hi hr)) (hS : va_S A0 s.heap H locs) (hA : ∀ q, s.heap.size ≤ q → A0 q) : ∀ q, xa_own al L H.size q → A0 q := by
  intro q h
  rcases h with ⟨a, ha, rfl⟩ | h
  · obtain ⟨i, -, h2⟩ := xa_get? (dA := dA) (al := al) (hi := hi) (hr := hr) ha
    exact hD.2 i _ h2
  · exact hA q (Nat.le_trans hS.1 h)
theorem xa_after {Post : Option Value → xa_AH → xa_AR → Prop} {a : Array Value} (hrun : va_Run p l e R s m args below meth c H locs cells slots mc ms (F0 m pc lm st0) rest (xa_Qc E al L H.size Post a) (xa_own al L H.size)) (hS : va_S A0 s.heap H locs) (hA : ∀ q, xa_own al L H.size q → A0 q)
    (kk : ∀ (r : Option Value) (hi' : xa_AH) (hr' : xa_AR) (H1 : Heap) (locs1 : List Loc), Post r hi' hr' → va_P E.2.1 xa_cl (xa_wd E.2.2 al L hi' hr') H1 → va_S A0 s.heap H1 locs1 → W p l e R s m args below meth c H1 locs1 (cells + mc) (slots + ms) Q (F0 m (pc + 3) lm ((r.map (xa_cv al)).toList ++ rest))) : W p l e R s m args below meth c H locs cells slots Q (F0 m pc lm st0) := by
  intro T hT X
  obtain ⟨v, st₀, t, T', Ls, h0, X', hL, e1, e2, ⟨⟨r, hi', hr', hv, hp, hb⟩, hz, hk⟩, st⟩ := hrun T hT X
  cases hv
  rw [h0] at hz hk
  obtain ⟨t2, a1, b1⟩ := kk r hi' hr' T'.heap (locs ++ Ls) hp (by rw [e1]; exact hb)
    ⟨Nat.le_trans hS.1 (by rw [e1]; exact hz), fun q h1 h2 => by rw [e1, hk q (Nat.lt_of_lt_of_le h1 hS.1) (fun z => h2 (hA q z))]; exact hS.2.1 q h1 h2, fun q hq => by
      rcases List.mem_append.mp hq with h | h
      · exact hS.2.2 q h
      · exact hA _ (hL q h)⟩ T' rfl X'
  exact ⟨t2, st t2 a1, b1⟩
theorem xa_afterA {Post : Option Value → List Nat → xa_AH → xa_AR → Prop} {a : Array Value} (hrun : va_Run p l e R s m args below meth c H locs cells slots mc ms (F0 m pc lm st0) rest (xa_QcA E al L H.size Post a) (xa_own al L H.size)) (hS : va_S A0 s.heap H locs) (hA : ∀ q, xa_own al L H.size q → A0 q)
    (kk : ∀ (al' : Nat → Nat) (r : Option Value) (L' : List Nat) (hi' : xa_AH) (hr' : xa_AR) (H1 : Heap) (locs1 : List Loc), (∀ a, a ∈ L → al' a = al a) → Post r L' hi' hr' → va_P E.2.1 xa_cl (xa_wd E.2.2 al' L' hi' hr') H1 → va_D A0 (xa_wd E.2.2 al' L' hi' hr') → va_S A0 s.heap H1 locs1 → W p l e R s m args below meth c H1 locs1 (cells + mc) (slots + ms) Q (F0 m (pc + 3) lm ((r.map (xa_cv al')).toList ++ rest))) : W p l e R s m args below meth c H locs cells slots Q (F0 m pc lm st0) := by
  intro T hT X
  obtain ⟨v, st₀, t, T', Ls, h0, X', hL, e1, e2, ⟨⟨al', r, L', hi', hr', hag, hv, hp, hb, hd⟩, hz, hk⟩, st⟩ := hrun T hT X
  cases hv
  rw [h0] at hz hk
  obtain ⟨t2, a1, b1⟩ := kk al' r L' hi' hr' T'.heap (locs ++ Ls) hag hp (by rw [e1]; exact hb) (hd.weaken (fun k q _ h => hA _ h))
    ⟨Nat.le_trans hS.1 (by rw [e1]; exact hz), fun q h1 h2 => by rw [e1, hk q (Nat.lt_of_lt_of_le h1 hS.1) (fun z => h2 (hA q z))]; exact hS.2.1 q h1 h2, fun q hq => by
      rcases List.mem_append.mp hq with h | h
      · exact hS.2.2 q h
      · exact hA _ (hL q h)⟩ T' rfl X'
  exact ⟨t2, st t2 a1, b1⟩
theorem xa_blind {as : List Value} {sz : Nat} : FrameBlind (xa_Pc E as L hi hr al sz) := fun a U g mk q => by
  obtain ⟨q0, q1, qP, qD, qK⟩ := q
  exact ⟨q0, q1, qP, qD, xa_K.same (s := U) (U := U.calling g mk a) rfl qK⟩
theorem xa_preS {as : List Value} {A : Nat → Prop} (hP : va_P E.2.1 xa_cl (xa_wd E.2.2 al L hi hr) H) (hD : va_D A (xa_wd E.2.2 al L hi hr)) (hK : xa_K E s) : PreS s H (xa_Pc E as L hi hr al H.size) (as.map (xa_cv al)) :=
  ⟨xa_blind, fun U hU hW => ⟨rfl, by rw [hU], by rw [hU]; exact hP, hD.weaken (fun _ _ _ _ => trivial), hK.warm hW⟩⟩
end XA6
