/-! ===== new cells: the next number is the prover's choice ===== -/
def xa_zi (hi : xa_AH) (a : Nat) : xa_AH := fun x y => if x = a then 0 else hi x y
def xa_zr (hr : xa_AR) (a : Nat) : xa_AR := fun x y => if x = a then none else hr x y
def xa_la (al : Nat → Nat) (a q : Nat) : Nat → Nat := fun x => if x = a then q else al x
def xa_NC (own : String) (idx ci : Nat) : Prop := ∃ (Cn : String) (T : u_T) (N : Nat) (ty0 : Nat → FieldType), xa_cl[ci]? = some (Cn, T, N) ∧ N = xa_nT.getD ci 0 ∧ (∀ w ∈ u_ws Cn T N, w ∈ xa_G) ∧ (∀ k, k < N → parseFieldDescriptor (T k).2.2.1 = some (ty0 k)) ∧ (∀ j, j < N → defaultValue (ty0 j) = if xa_isR ci j = true then .null else .int 0) ∧ Cond.classLink own idx Cn ∈ xa_G ∧ Cond.instantiable Cn N ∈ xa_G ∧ Cond.initialized Cn ∈ xa_G
section XA8
variable {E : xa_EV} {M : xa_MC} {Z : xa_ZC} {kc ks pc : Nat} {ls : List (Option Value)} {st : List Value} {L : List Nat} {hi : xa_AH} {hr : xa_AR}
theorem xa_wd_new {dA : Nat → ClassId} {al : Nat → Nat} {a q : Nat} (ha : a ∉ L) (hfr : ∀ b k, hr b k ≠ some a) : xa_wd dA (xa_la al a q) (L ++ [a]) (xa_zi hi a) (xa_zr hr a) = xa_wd dA al L hi hr ++ [(q, xa_en dA (xa_la al a q) (xa_zi hi a) (xa_zr hr a) a)] := by
  have h1 : xa_wd dA (xa_la al a q) L (xa_zi hi a) (xa_zr hr a) = xa_wd dA al L hi hr := by
    refine List.map_congr_left (fun b hb => ?_)
    have hne : b ≠ a := fun h => ha (h ▸ hb)
    have e1 : xa_zi hi a b = hi b := by funext y; simp [xa_zi, hne]
    have e2 : ∀ k, ((xa_zr hr a) b k).map (xa_la al a q) = (hr b k).map al := by
      intro k
      have e3 : (xa_zr hr a) b k = hr b k := by simp [xa_zr, hne]
      rw [e3]
      cases hk : hr b k with
      | none => rfl
      | some c =>
        have hc : c ≠ a := fun h => hfr b k (by rw [hk, h])
        simp [xa_la, hc]
    have e4 : xa_sv (xa_la al a q) (xa_zi hi a) (xa_zr hr a) b = xa_sv al hi hr b := by
      funext k
      simp [xa_sv, e1, e2]
    simp [xa_en, e1, e2, e4, xa_la, hne]
  show List.map _ (L ++ [a]) = _
  rw [List.map_append]
  show xa_wd dA (xa_la al a q) L (xa_zi hi a) (xa_zr hr a) ++ _ = _
  rw [h1]
  simp [xa_la]
theorem xa_st_new {al : Nat → Nat} {a q : Nat} (hst : Value.ref a ∉ st) : st.map (xa_cv (xa_la al a q)) = st.map (xa_cv al) := List.map_congr_left (fun v hv => by
  cases v <;> first | rfl | (rename_i c; have hc : c ≠ a := fun h => hst (h ▸ hv); show Value.ref _ = Value.ref _; simp [xa_la, hc]))
theorem xa_cv_la {al : Nat → Nat} {a q c : Nat} (hc : c ≠ a) : xa_cv (xa_la al a q) (Value.ref c) = xa_cv al (Value.ref c) := by
  show Value.ref _ = Value.ref _
  simp [xa_la, hc]
theorem xa_lv_new {al : Nat → Nat} {a q nL : Nat} {lm : Array Slot} (hls : some (Value.ref a) ∉ ls) (h : xa_lv al nL ls lm) : xa_lv (xa_la al a q) nL ls lm := by
  obtain ⟨lv, h1, h2, h3⟩ := h
  refine ⟨lv, h1, h2, fun i v hv => ?_⟩
  have h4 := h3 i v hv
  cases v <;> first | exact h4 | (rename_i c; have hc : c ≠ a := fun h => hls (h ▸ List.mem_of_getElem? hv); rw [xa_cv_la hc]; exact h4)
theorem xa_new {idx : Nat} (a ci : Nat) (hC : xa_NC M.1.cls idx ci) (hd : decode M.2.1 pc = .ok (.new idx, 3)) (hk : xa_kd a = ci) (ha : a ∉ L) (hZ : ¬ Z.2.2.2 a) (hst : Value.ref a ∉ st) (hls : some (Value.ref a) ∉ ls) (hfr : ∀ b k, hr b k ≠ some a) (hkc : 1 ≤ kc) (hks : xa_nT.getD ci 0 ≤ ks)
    (k : xa_W E M Z (kc - 1) (ks - xa_nT.getD ci 0) (pc + 3) ls (.ref a :: st) (L ++ [a]) (xa_zi hi a) (xa_zr hr a)) : xa_W E M Z kc ks pc ls st L hi hr := by
  intro p e s m args below meth c al0 al H locs cells slots lm C hN hP hD hS hl hc hs
  obtain ⟨Cn, T, N, ty0, h1, h2, h3, h4, h5, h6, h7, h8⟩ := hC
  rw [← h2] at hks k
  refine va_new (ci := ci) (fs := (List.range N).map (fun j => if xa_isR ci j = true then .null else .int 0)) C.1 C.2.1 (Ts := xa_G) C.2.2.2.2.2.1 h3 ty0 h4 C.2.2.2.2.1 (C.2.2.2.2.2.1 _ h6) (C.2.2.2.2.2.1 _ h7) (C.2.2.2.2.2.1 _ h8) C.2.2.2.2.2.2.2.2.1.1 hP hD hS xa_own_new h1 (fun j hj => by rw [h5 j hj]; simp [vp_V, hj]) (by omega) (by omega) hd (fun q H1 hP1 hD1 hS1 => ?_)
  have e1 : (.inr (ci, (List.range N).map (fun j => if xa_isR ci j = true then Value.null else Value.int 0)) : va_E) = xa_en E.2.2 (xa_la al a q) (xa_zi hi a) (xa_zr hr a) a := by
    rw [xa_en_o hk (xa_ci h1), ← h2]
    congr 3
    funext j
    simp [xa_sv, hk, xa_zi, xa_zr, va_rf]
  rw [e1, ← xa_wd_new ha hfr] at hP1 hD1
  rw [← xa_st_new (al := al) (q := q) hst]
  have e2 : Value.ref q :: st.map (xa_cv (xa_la al a q)) = (Value.ref a :: st).map (xa_cv (xa_la al a q)) := by
    rw [List.map_cons]
    show _ = Value.ref (xa_la al a q a) :: _
    simp [xa_la]
  rw [e2]
  exact k p e s m args below meth c al0 (xa_la al a q) H1 locs _ _ lm C (fun b hb => by have hne : b ≠ a := fun h => hZ (h ▸ hb); simp [xa_la, hne, hN b hb]) hP1 hD1 hS1 (xa_lv_new hls hl) (by omega) (by omega)
theorem xa_newarr {n : Int32} {aty : ArrayType} {ty : FieldType} (a kd0 t0 : Nat) (hty : newarray.typeOf aty = ty) (hdef : defaultValue ty = .int 0) (ht0 : ∀ dA : Nat → ClassId, (xa_tys dA)[t0]? = some (dA kd0, ty)) (hra : ∀ (U : State) (x y : ClassId), va_RA U x ty → va_RA U y ty → x = y) (hen : ∀ (dA : Nat → ClassId) (al : Nat → Nat) (hi : xa_AH) (hr : xa_AR), xa_en dA al hi hr a = .inl (dA kd0, xa_ln a, .inl (hi a))) (hw : Cond.arrayClass ty ∈ xa_G) (hd : decode M.2.1 pc = .ok (.newarray aty, 2)) (hn : ¬ n < 0) (hN0 : n.toNatClampNeg = xa_ln a) (hby : xa_ln a * componentBytes ty ≤ 536870912) (ha : a ∉ L) (hZ : ¬ Z.2.2.2 a) (hst : Value.ref a ∉ st) (hls : some (Value.ref a) ∉ ls) (hfr : ∀ b k, hr b k ≠ some a) (hkc : 1 ≤ kc) (hks : xa_ln a ≤ ks)
    (k : xa_W E M Z (kc - 1) (ks - xa_ln a) (pc + 2) ls (.ref a :: st) (L ++ [a]) (xa_zi hi a) (xa_zr hr a)) : xa_W E M Z kc ks pc ls (.int n :: st) L hi hr := by
  intro p e s m args below meth c al0 al H locs cells slots lm C hN hP hD hS hl hc hs
  refine va_newa (a0 := (xa_ln a, .inl (fun _ => 0))) C.1 C.2.1 (by rw [hty]; exact C.2.2.2.2.2.1 _ hw) hty C.2.2.2.2.2.2.2.2.1.1 hP hD hS xa_own_new (fun cA => by rw [hdef]; rfl) hn hN0 hby (by omega) (by omega) hd (fun q cA H1 hK1 hP1 hD1 hS1 => ?_)
  have ec : cA = E.2.2 kd0 := hra s _ _ (hK1.2 4 (cA, ty) rfl).2 (C.2.2.2.2.2.2.2.2.1.1.2 t0 _ (ht0 _)).2
  subst ec
  have e1 : (.inl (E.2.2 kd0, (xa_ln a, .inl (fun _ => 0))) : va_E) = xa_en E.2.2 (xa_la al a q) (xa_zi hi a) (xa_zr hr a) a := by
    rw [hen]
    congr 4
    funext j
    simp [xa_zi]
  rw [e1, ← xa_wd_new ha hfr] at hP1 hD1
  show W p E.1 e M.2.2.2.2 s m args below meth c H1 locs (cells + 1) (slots + xa_ln a) (Z.1 s args below al0) (F0 m (pc + 2) lm (Value.ref q :: st.map (xa_cv al)))
  rw [← xa_st_new (al := al) (q := q) hst]
  have e2 : Value.ref q :: st.map (xa_cv (xa_la al a q)) = (Value.ref a :: st).map (xa_cv (xa_la al a q)) := by
    rw [List.map_cons]
    show _ = Value.ref (xa_la al a q a) :: _
    simp [xa_la]
  rw [e2]
  exact k p e s m args below meth c al0 (xa_la al a q) H1 locs _ _ lm C (fun b hb => by have hne : b ≠ a := fun h => hZ (h ▸ hb); simp [xa_la, hne, hN b hb]) hP1 hD1 hS1 (xa_lv_new hls hl) (by omega) (by omega)
theorem xa_newref {n : Int32} {idx : Nat} {Cn : String} (a kd0 t0 : Nat) (hcls : Cond.classLink M.1.cls idx Cn ∈ xa_G) (hao : ∀ U : State, xa_K E U → va_AO Cn U) (ht0 : ∀ dA : Nat → ClassId, (xa_tys dA)[t0]? = some (dA kd0, .object Cn)) (hk : xa_kd a = kd0) (hk1 : ¬ kd0 < 11) (hd : decode M.2.1 pc = .ok (.anewarray idx, 3)) (hn : ¬ n < 0) (hN0 : n.toNatClampNeg = xa_ln a) (hby : xa_ln a * 4 ≤ 536870912) (ha : a ∉ L) (hZ : ¬ Z.2.2.2 a) (hst : Value.ref a ∉ st) (hls : some (Value.ref a) ∉ ls) (hfr : ∀ b k, hr b k ≠ some a) (hkc : 1 ≤ kc) (hks : xa_ln a ≤ ks)
    (k : xa_W E M Z (kc - 1) (ks - xa_ln a) (pc + 3) ls (.ref a :: st) (L ++ [a]) (xa_zi hi a) (xa_zr hr a)) : xa_W E M Z kc ks pc ls (.int n :: st) L hi hr := by
  intro p e s m args below meth c al0 al H locs cells slots lm C hN hP hD hS hl hc hs
  refine va_newq C.1 C.2.1 C.2.2.2.2.1 (C.2.2.2.2.2.1 _ hcls) (hao s C.2.2.2.2.2.2.2.2.1) C.2.2.2.2.2.2.2.2.1.1 hP hD hS xa_own_new hn hN0 hby (by omega) (by omega) hd (fun q cA H1 hK1 hP1 hD1 hS1 => ?_)
  have ec : cA = E.2.2 kd0 := by
    obtain ⟨_, _, _, _, _, f1⟩ := (hK1.2 4 (cA, .object Cn) rfl).2
    obtain ⟨_, _, _, _, _, f2⟩ := (C.2.2.2.2.2.2.2.2.1.1.2 t0 _ (ht0 _)).2
    exact Option.some.inj (f1.symm.trans f2)
  subst ec
  have e1 : (.inl (E.2.2 kd0, (xa_ln a, .inr (.inr (.inr (.inr (fun _ => none)))))) : va_E) = xa_en E.2.2 (xa_la al a q) (xa_zi hi a) (xa_zr hr a) a := by
    rw [xa_en_r hk hk1]
    congr 7
    funext j
    simp [xa_zr]
  rw [e1, ← xa_wd_new ha hfr] at hP1 hD1
  show W p E.1 e M.2.2.2.2 s m args below meth c H1 locs (cells + 1) (slots + xa_ln a) (Z.1 s args below al0) (F0 m (pc + 3) lm (Value.ref q :: st.map (xa_cv al)))
  rw [← xa_st_new (al := al) (q := q) hst]
  have e2 : Value.ref q :: st.map (xa_cv (xa_la al a q)) = (Value.ref a :: st).map (xa_cv (xa_la al a q)) := by
    rw [List.map_cons]
    show _ = Value.ref (xa_la al a q a) :: _
    simp [xa_la]
  rw [e2]
  exact k p e s m args below meth c al0 (xa_la al a q) H1 locs _ _ lm C (fun b hb => by have hne : b ≠ a := fun h => hZ (h ▸ hb); simp [xa_la, hne, hN b hb]) hP1 hD1 hS1 (xa_lv_new hls hl) (by omega) (by omega)
end XA8
