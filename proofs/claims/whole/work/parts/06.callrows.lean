section XA7
variable {E : xa_EV} {M : xa_MC} {Z : xa_ZC} {kc ks pc : Nat} {ls : List (Option Value)} {st stk : List Value} {L : List Nat} {hi : xa_AH} {hr : xa_AR} {M2 : xa_MC} {as : List Value} {idx n : Nat}
theorem xa_catsum (al : Nat → Nat) (st : List Value) : ((st.map (xa_cv al)).map fun v => v.category).sum = (st.map fun v => v.category).sum := by
  rw [List.map_map]
  exact congrArg List.sum (List.map_congr_left (fun v _ => xa_cv_cat al v))
theorem xa_toList (al : Nat → Nat) (r : Option Value) (st : List Value) : (r.map (xa_cv al)).toList ++ st.map (xa_cv al) = (r.toList ++ st).map (xa_cv al) := by
  cases r <;> rfl
theorem xa_recv {b ci : Nat} {q : vw_C} {s : State} {H : Heap} {al : Nat → Nat} (hK : xa_K E s) (hP : va_P E.2.1 xa_cl (xa_wd E.2.2 al L hi hr) H) (hb : b ∈ L) (hk : xa_kd b = ci) (hc : xa_cl[ci]? = some q) : ∃ cell : Cell, H[al b]? = some cell ∧ cell.vm.isStatics = false ∧ s.vm.findClass q.1 = some cell.cls := by
  obtain ⟨q0, hq, hw⟩ := xa_get? (dA := E.2.2) (al := al) (hi := hi) (hr := hr) hb
  rw [xa_en_o hk (xa_ci hc)] at hw
  exact va_recv hK.1 hP hc hw
theorem xa_callV {Post : Option Value → xa_AH → xa_AR → Prop} {b ci : Nat} {T : u_T} {N : Nat} (hb : b ∈ L) (hk : xa_kd b = ci) (hcl : xa_cl[ci]? = some (M2.1.cls, T, N)) (hT : xa_CV M.1.cls idx M2 n) (hd : decode M.2.1 pc = .ok (.invokevirtual idx, 3)) (hC : xa_Ct E M2 (.ref b :: as) L hi hr Post) (hsk : stk = as.reverse ++ .ref b :: st) (hn : as.length = n) (hR : M2.2.2.2.2.frames + 1 ≤ M.2.2.2.2.frames ∧ 8 + (M2.2.2.1 + 11) + M2.2.2.2.2.locals ≤ M.2.2.2.2.locals) (hw : (st.map fun v => v.category).sum ≤ 8) (hz : M2.2.2.2.2.cells = 0 ∧ M2.2.2.2.2.slots = 0) (kk : ∀ (r : Option Value) (hi2 : xa_AH) (hr2 : xa_AR), Post r hi2 hr2 → xa_W E M Z kc ks (pc + 3) ls (r.toList ++ st) L hi2 hr2) : xa_W E M Z kc ks pc ls stk L hi hr := by
  intro p e s m args below meth c al0 al H locs cells slots lm C hN hP hD hS hl hc hs
  subst hsk
  obtain ⟨⟨k1, k2, k3⟩, k4, k5, k6⟩ := hT
  obtain ⟨lv, f1, f2, f3⟩ := id hl
  have hml := f1.1
  have hsk : (as.reverse ++ .ref b :: st).map (xa_cv al) = (as.map (xa_cv al)).reverse ++ .ref (al b) :: st.map (xa_cv al) := by simp [List.map_reverse, xa_cv]
  have hA := xa_sub_own hD hS xa_own_new
  have hrun := va_runV (p := p) (l := E.1) (e := e) (below := below) (meth := meth) (locs := locs) (cells := cells) (slots := slots) (H := H) (g := F0 m pc lm ((as.reverse ++ .ref b :: st).map (xa_cv al))) (b := al b) (As := as.map (xa_cv al)) (rest := st.map (xa_cv al)) (nL := M.2.2.1) (index := idx) (bytes := M2.2.1) (maxL := M2.2.2.1) ⟨C.1, C.2.1, C.2.2.2.1, C.2.2.2.2.1, C.2.2.2.2.2.1⟩ (hC al H.size) ⟨callB_of n C.2.2.2.2.2.1 (xa_goodw ⟨k1, k2, k3⟩) rfl rfl rfl (C.2.2.2.2.2.1 _ k1) (C.2.2.2.2.2.1 _ k4) k3 hR, C.2.2.2.2.2.1 _ k5, C.2.2.2.2.2.1 _ k6⟩ ⟨xa_blind, xa_recv C.2.2.2.2.2.2.2.2.1 hP hb hk hcl, (xa_preS hP hD C.2.2.2.2.2.2.2.2.1).2⟩ rfl (by rw [List.length_map]; exact hn) hml hsk (lv_room (by rw [xa_catsum]; exact hw)) hd (by rw [hz.1, hz.2]; exact ⟨by omega, by omega⟩)
  refine xa_after hrun hS hA (fun r hi2 hr2 H1 locs1 hp hP1 hS1 => ?_)
  rw [xa_toList]
  exact kk r hi2 hr2 hp p e s m args below meth c al0 al H1 locs1 _ _ lm C hN hP1 (xa_D_same hD) hS1 hl (by rw [hz.1]; exact hc) (by rw [hz.2]; exact hs)
theorem xa_callS {Post : Option Value → xa_AH → xa_AR → Prop} (hT : xa_CS M.1.cls idx M2 n) (hd : decode M.2.1 pc = .ok (.invokestatic idx, 3)) (hC : xa_Ct E M2 as L hi hr Post) (hsk : stk = as.reverse ++ st) (hn : as.length = n) (hR : M2.2.2.2.2.frames + 1 ≤ M.2.2.2.2.frames ∧ 8 + (M2.2.2.1 + 11) + M2.2.2.2.2.locals ≤ M.2.2.2.2.locals) (hw : (st.map fun v => v.category).sum ≤ 8) (hz : M2.2.2.2.2.cells = 0 ∧ M2.2.2.2.2.slots = 0) (kk : ∀ (r : Option Value) (hi2 : xa_AH) (hr2 : xa_AR), Post r hi2 hr2 → xa_W E M Z kc ks (pc + 3) ls (r.toList ++ st) L hi2 hr2) : xa_W E M Z kc ks pc ls stk L hi hr := by
  intro p e s m args below meth c al0 al H locs cells slots lm C hN hP hD hS hl hc hs
  subst hsk
  obtain ⟨⟨k1, k2, k3⟩, k4, k5⟩ := hT
  obtain ⟨lv, f1, f2, f3⟩ := id hl
  have hml := f1.1
  have hsk : (as.reverse ++ st).map (xa_cv al) = (as.map (xa_cv al)).reverse ++ st.map (xa_cv al) := by simp [List.map_reverse, xa_cv]
  have hA := xa_sub_own hD hS xa_own_new
  have hrun := va_runS (p := p) (l := E.1) (e := e) (below := below) (meth := meth) (locs := locs) (cells := cells) (slots := slots) (H := H) (g := F0 m pc lm ((as.reverse ++ st).map (xa_cv al))) (As := as.map (xa_cv al)) (rest := st.map (xa_cv al)) (nL := M.2.2.1) (index := idx) (bytes := M2.2.1) (maxL := M2.2.2.1) ⟨C.1, C.2.1, C.2.2.2.1, C.2.2.2.2.1, C.2.2.2.2.2.1⟩ (hC al H.size) ⟨callB_of n C.2.2.2.2.2.1 (xa_goodw ⟨k1, k2, k3⟩) rfl rfl rfl (C.2.2.2.2.2.1 _ k1) (C.2.2.2.2.2.1 _ k4) k3 hR, C.2.2.2.2.2.1 _ k5⟩ (xa_preS hP hD C.2.2.2.2.2.2.2.2.1) rfl (by rw [List.length_map]; exact hn) hml hsk (lv_room (by rw [xa_catsum]; exact hw)) hd (by rw [hz.1, hz.2]; exact ⟨by omega, by omega⟩)
  refine xa_after hrun hS hA (fun r hi2 hr2 H1 locs1 hp hP1 hS1 => ?_)
  rw [xa_toList]
  exact kk r hi2 hr2 hp p e s m args below meth c al0 al H1 locs1 _ _ lm C hN hP1 (xa_D_same hD) hS1 hl (by rw [hz.1]; exact hc) (by rw [hz.2]; exact hs)
theorem xa_callSN {Post : Option Value → xa_AH → xa_AR → Prop} (hT : xa_CSN M.1.cls idx M2 n) (hd : decode M.2.1 pc = .ok (.invokestatic idx, 3)) (hC : xa_Ct E M2 as L hi hr Post) (hsk : stk = as.reverse ++ st) (hn : as.length = n) (hR : M2.2.2.2.2.frames + 1 ≤ M.2.2.2.2.frames ∧ 8 + (M2.2.2.1 + 11) + M2.2.2.2.2.locals ≤ M.2.2.2.2.locals) (hw : (st.map fun v => v.category).sum ≤ 8) (hz : M2.2.2.2.2.cells = 0 ∧ M2.2.2.2.2.slots = 0) (kk : ∀ (r : Option Value) (hi2 : xa_AH) (hr2 : xa_AR), Post r hi2 hr2 → xa_W E M Z kc ks (pc + 3) ls (r.toList ++ st) L hi2 hr2) : xa_W E M Z kc ks pc ls stk L hi hr := by
  intro p e s m args below meth c al0 al H locs cells slots lm C hN hP hD hS hl hc hs
  subst hsk
  obtain ⟨⟨k1, k2, k3⟩, ⟨hh, k4⟩, k5⟩ := hT
  obtain ⟨lv, f1, f2, f3⟩ := id hl
  have hml := f1.1
  have hsk : (as.reverse ++ st).map (xa_cv al) = (as.map (xa_cv al)).reverse ++ st.map (xa_cv al) := by simp [List.map_reverse, xa_cv]
  have hA := xa_sub_own hD hS xa_own_new
  have hrun := va_runSN (p := p) (l := E.1) (e := e) (below := below) (meth := meth) (locs := locs) (cells := cells) (slots := slots) (H := H) (g := F0 m pc lm ((as.reverse ++ st).map (xa_cv al))) (As := as.map (xa_cv al)) (rest := st.map (xa_cv al)) (nL := M.2.2.1) (index := idx) (bytes := M2.2.1) (maxL := M2.2.2.1) ⟨C.1, C.2.1, C.2.2.2.1, C.2.2.2.2.1, C.2.2.2.2.2.1⟩ (hC al H.size) ⟨va_cnB n C.2.2.2.2.2.1 (xa_goodw ⟨k1, k2, k3⟩) rfl rfl rfl (C.2.2.2.2.2.2.2.2.1.2.1 _ k4) (C.2.2.2.2.2.1 _ k1) k3 hR, C.2.2.2.2.2.1 _ k5, trivial⟩ (xa_preS hP hD C.2.2.2.2.2.2.2.2.1) rfl (by rw [List.length_map]; exact hn) hml hsk (lv_room (by rw [xa_catsum]; exact hw)) hd (by rw [hz.1, hz.2]; exact ⟨by omega, by omega⟩)
  refine xa_after hrun hS hA (fun r hi2 hr2 H1 locs1 hp hP1 hS1 => ?_)
  rw [xa_toList]
  exact kk r hi2 hr2 hp p e s m args below meth c al0 al H1 locs1 _ _ lm C hN hP1 (xa_D_same hD) hS1 hl (by rw [hz.1]; exact hc) (by rw [hz.2]; exact hs)
theorem xa_callI {Post : Option Value → xa_AH → xa_AR → Prop} {b : Nat} (hT : xa_CI M.1.cls idx M2 n) (hd : decode M.2.1 pc = .ok (.invokespecial idx, 3)) (hC : xa_Ct E M2 (.ref b :: as) L hi hr Post) (hsk : stk = as.reverse ++ .ref b :: st) (hn : as.length = n) (hR : M2.2.2.2.2.frames + 1 ≤ M.2.2.2.2.frames ∧ 8 + (M2.2.2.1 + 11) + M2.2.2.2.2.locals ≤ M.2.2.2.2.locals) (hw : (st.map fun v => v.category).sum ≤ 8) (hz : M2.2.2.2.2.cells = 0 ∧ M2.2.2.2.2.slots = 0) (kk : ∀ (r : Option Value) (hi2 : xa_AH) (hr2 : xa_AR), Post r hi2 hr2 → xa_W E M Z kc ks (pc + 3) ls (r.toList ++ st) L hi2 hr2) : xa_W E M Z kc ks pc ls stk L hi hr := by
  intro p e s m args below meth c al0 al H locs cells slots lm C hN hP hD hS hl hc hs
  subst hsk
  obtain ⟨⟨k1, k2, k3⟩, k4, k5, k6, k7⟩ := hT
  obtain ⟨lv, f1, f2, f3⟩ := id hl
  have hml := f1.1
  have hsk : (as.reverse ++ .ref b :: st).map (xa_cv al) = (as.map (xa_cv al)).reverse ++ .ref (al b) :: st.map (xa_cv al) := by simp [List.map_reverse, xa_cv]
  have hA := xa_sub_own hD hS xa_own_new
  have hrun := va_runI (p := p) (l := E.1) (e := e) (below := below) (meth := meth) (locs := locs) (cells := cells) (slots := slots) (H := H) (g := F0 m pc lm ((as.reverse ++ .ref b :: st).map (xa_cv al))) (b := al b) (As := as.map (xa_cv al)) (rest := st.map (xa_cv al)) (nL := M.2.2.1) (index := idx) (bytes := M2.2.1) (maxL := M2.2.2.1) ⟨C.1, C.2.1, C.2.2.2.1, C.2.2.2.2.1, C.2.2.2.2.2.1⟩ (hC al H.size) ⟨callB_of n C.2.2.2.2.2.1 (xa_goodw ⟨k1, k2, k3⟩) (by show Cond.code _ _ _ M2.2.2.2.1 :: _ = _; rw [k7]) rfl rfl (C.2.2.2.2.2.1 _ k1) (C.2.2.2.2.2.1 _ k4) k3 hR, k5, C.2.2.2.2.2.1 _ k6⟩ (xa_preS hP hD C.2.2.2.2.2.2.2.2.1) rfl (by rw [List.length_map]; exact hn) hml hsk (lv_room (by rw [xa_catsum]; exact hw)) hd (by rw [hz.1, hz.2]; exact ⟨by omega, by omega⟩)
  refine xa_after hrun hS hA (fun r hi2 hr2 H1 locs1 hp hP1 hS1 => ?_)
  rw [xa_toList]
  exact kk r hi2 hr2 hp p e s m args below meth c al0 al H1 locs1 _ _ lm C hN hP1 (xa_D_same hD) hS1 hl (by rw [hz.1]; exact hc) (by rw [hz.2]; exact hs)
theorem xa_callIN {Post : Option Value → xa_AH → xa_AR → Prop} {b : Nat} (hT : xa_CIN M.1.cls idx M2 n) (hd : decode M.2.1 pc = .ok (.invokespecial idx, 3)) (hC : xa_Ct E M2 (.ref b :: as) L hi hr Post) (hsk : stk = as.reverse ++ .ref b :: st) (hn : as.length = n) (hR : M2.2.2.2.2.frames + 1 ≤ M.2.2.2.2.frames ∧ 8 + (M2.2.2.1 + 11) + M2.2.2.2.2.locals ≤ M.2.2.2.2.locals) (hw : (st.map fun v => v.category).sum ≤ 8) (hz : M2.2.2.2.2.cells = 0 ∧ M2.2.2.2.2.slots = 0) (kk : ∀ (r : Option Value) (hi2 : xa_AH) (hr2 : xa_AR), Post r hi2 hr2 → xa_W E M Z kc ks (pc + 3) ls (r.toList ++ st) L hi2 hr2) : xa_W E M Z kc ks pc ls stk L hi hr := by
  intro p e s m args below meth c al0 al H locs cells slots lm C hN hP hD hS hl hc hs
  subst hsk
  obtain ⟨⟨k1, k2, k3⟩, ⟨hh, k4⟩, k5, k6, k7⟩ := hT
  obtain ⟨lv, f1, f2, f3⟩ := id hl
  have hml := f1.1
  have hsk : (as.reverse ++ .ref b :: st).map (xa_cv al) = (as.map (xa_cv al)).reverse ++ .ref (al b) :: st.map (xa_cv al) := by simp [List.map_reverse, xa_cv]
  have hA := xa_sub_own hD hS xa_own_new
  have hrun := va_runIN (p := p) (l := E.1) (e := e) (below := below) (meth := meth) (locs := locs) (cells := cells) (slots := slots) (H := H) (g := F0 m pc lm ((as.reverse ++ .ref b :: st).map (xa_cv al))) (b := al b) (As := as.map (xa_cv al)) (rest := st.map (xa_cv al)) (nL := M.2.2.1) (index := idx) (bytes := M2.2.1) (maxL := M2.2.2.1) ⟨C.1, C.2.1, C.2.2.2.1, C.2.2.2.2.1, C.2.2.2.2.2.1⟩ (hC al H.size) ⟨va_cnB n C.2.2.2.2.2.1 (xa_goodw ⟨k1, k2, k3⟩) (by show Cond.code _ _ _ M2.2.2.2.1 :: _ = _; rw [k7]) rfl rfl (C.2.2.2.2.2.2.2.2.1.2.1 _ k4) (C.2.2.2.2.2.1 _ k1) k3 hR, k5, C.2.2.2.2.2.1 _ k6⟩ (xa_preS hP hD C.2.2.2.2.2.2.2.2.1) rfl (by rw [List.length_map]; exact hn) hml hsk (lv_room (by rw [xa_catsum]; exact hw)) hd (by rw [hz.1, hz.2]; exact ⟨by omega, by omega⟩)
  refine xa_after hrun hS hA (fun r hi2 hr2 H1 locs1 hp hP1 hS1 => ?_)
  rw [xa_toList]
  exact kk r hi2 hr2 hp p e s m args below meth c al0 al H1 locs1 _ _ lm C hN hP1 (xa_D_same hD) hS1 hl (by rw [hz.1]; exact hc) (by rw [hz.2]; exact hs)
theorem xa_callVA {Post : Option Value → List Nat → xa_AH → xa_AR → Prop} {b ci : Nat} {T : u_T} {N : Nat} (hb : b ∈ L) (hk : xa_kd b = ci) (hcl : xa_cl[ci]? = some (M2.1.cls, T, N)) (hT : xa_CV M.1.cls idx M2 n) (hd : decode M.2.1 pc = .ok (.invokevirtual idx, 3)) (hC : xa_CtA E M2 (.ref b :: as) L hi hr Post) (hsk : stk = as.reverse ++ .ref b :: st) (hn : as.length = n) (hR : M2.2.2.2.2.frames + 1 ≤ M.2.2.2.2.frames ∧ 8 + (M2.2.2.1 + 11) + M2.2.2.2.2.locals ≤ M.2.2.2.2.locals) (hw : (st.map fun v => v.category).sum ≤ 8) (hkc : M2.2.2.2.2.cells ≤ kc) (hks : M2.2.2.2.2.slots ≤ ks) (hZ : ∀ a, Z.2.2.2 a → a ∈ L) (hst : ∀ a, Value.ref a ∈ st → a ∈ L) (hlr : ∀ a, some (Value.ref a) ∈ ls → a ∈ L) (kk : ∀ (r : Option Value) (L2 : List Nat) (hi2 : xa_AH) (hr2 : xa_AR), Post r L2 hi2 hr2 → xa_W E M Z (kc - M2.2.2.2.2.cells) (ks - M2.2.2.2.2.slots) (pc + 3) ls (r.toList ++ st) L2 hi2 hr2) : xa_W E M Z kc ks pc ls stk L hi hr := by
  intro p e s m args below meth c al0 al H locs cells slots lm C hN hP hD hS hl hc hs
  subst hsk
  obtain ⟨⟨k1, k2, k3⟩, k4, k5, k6⟩ := hT
  obtain ⟨lv, f1, f2, f3⟩ := id hl
  have hml := f1.1
  have hsk : (as.reverse ++ .ref b :: st).map (xa_cv al) = (as.map (xa_cv al)).reverse ++ .ref (al b) :: st.map (xa_cv al) := by simp [List.map_reverse, xa_cv]
  have hA := xa_sub_own hD hS xa_own_new
  have hrun := va_runV (p := p) (l := E.1) (e := e) (below := below) (meth := meth) (locs := locs) (cells := cells) (slots := slots) (H := H) (g := F0 m pc lm ((as.reverse ++ .ref b :: st).map (xa_cv al))) (b := al b) (As := as.map (xa_cv al)) (rest := st.map (xa_cv al)) (nL := M.2.2.1) (index := idx) (bytes := M2.2.1) (maxL := M2.2.2.1) ⟨C.1, C.2.1, C.2.2.2.1, C.2.2.2.2.1, C.2.2.2.2.2.1⟩ (hC al H.size) ⟨callB_of n C.2.2.2.2.2.1 (xa_goodw ⟨k1, k2, k3⟩) rfl rfl rfl (C.2.2.2.2.2.1 _ k1) (C.2.2.2.2.2.1 _ k4) k3 hR, C.2.2.2.2.2.1 _ k5, C.2.2.2.2.2.1 _ k6⟩ ⟨xa_blind, xa_recv C.2.2.2.2.2.2.2.2.1 hP hb hk hcl, (xa_preS hP hD C.2.2.2.2.2.2.2.2.1).2⟩ rfl (by rw [List.length_map]; exact hn) hml hsk (lv_room (by rw [xa_catsum]; exact hw)) hd ⟨by omega, by omega⟩
  refine xa_afterA hrun hS hA (fun al2 r L2 hi2 hr2 H1 locs1 hag hp hP1 hD1 hS1 => ?_)
  have est : st.map (xa_cv al) = st.map (xa_cv al2) := List.map_congr_left (fun v hv => by cases v <;> first | rfl | (rename_i q; show Value.ref (al q) = Value.ref (al2 q); rw [hag q (hst q hv)]))
  rw [est, xa_toList]
  exact kk r L2 hi2 hr2 hp p e s m args below meth c al0 al2 H1 locs1 _ _ lm C (fun a ha => (hag a (hZ a ha)).trans (hN a ha)) hP1 hD1 hS1 ⟨lv, f1, f2, fun i v hv => by
    have h4 := f3 i v hv
    cases v <;> first | exact h4 | (rename_i q; have h5 := hag q (hlr q (List.mem_of_getElem? hv)); show (i, Value.ref (al2 q)) ∈ lv; rw [h5]; exact h4)⟩ (by omega) (by omega)
theorem xa_callSA {Post : Option Value → List Nat → xa_AH → xa_AR → Prop} (hT : xa_CS M.1.cls idx M2 n) (hd : decode M.2.1 pc = .ok (.invokestatic idx, 3)) (hC : xa_CtA E M2 as L hi hr Post) (hsk : stk = as.reverse ++ st) (hn : as.length = n) (hR : M2.2.2.2.2.frames + 1 ≤ M.2.2.2.2.frames ∧ 8 + (M2.2.2.1 + 11) + M2.2.2.2.2.locals ≤ M.2.2.2.2.locals) (hw : (st.map fun v => v.category).sum ≤ 8) (hkc : M2.2.2.2.2.cells ≤ kc) (hks : M2.2.2.2.2.slots ≤ ks) (hZ : ∀ a, Z.2.2.2 a → a ∈ L) (hst : ∀ a, Value.ref a ∈ st → a ∈ L) (hlr : ∀ a, some (Value.ref a) ∈ ls → a ∈ L) (kk : ∀ (r : Option Value) (L2 : List Nat) (hi2 : xa_AH) (hr2 : xa_AR), Post r L2 hi2 hr2 → xa_W E M Z (kc - M2.2.2.2.2.cells) (ks - M2.2.2.2.2.slots) (pc + 3) ls (r.toList ++ st) L2 hi2 hr2) : xa_W E M Z kc ks pc ls stk L hi hr := by
  intro p e s m args below meth c al0 al H locs cells slots lm C hN hP hD hS hl hc hs
  subst hsk
  obtain ⟨⟨k1, k2, k3⟩, k4, k5⟩ := hT
  obtain ⟨lv, f1, f2, f3⟩ := id hl
  have hml := f1.1
  have hsk : (as.reverse ++ st).map (xa_cv al) = (as.map (xa_cv al)).reverse ++ st.map (xa_cv al) := by simp [List.map_reverse, xa_cv]
  have hA := xa_sub_own hD hS xa_own_new
  have hrun := va_runS (p := p) (l := E.1) (e := e) (below := below) (meth := meth) (locs := locs) (cells := cells) (slots := slots) (H := H) (g := F0 m pc lm ((as.reverse ++ st).map (xa_cv al))) (As := as.map (xa_cv al)) (rest := st.map (xa_cv al)) (nL := M.2.2.1) (index := idx) (bytes := M2.2.1) (maxL := M2.2.2.1) ⟨C.1, C.2.1, C.2.2.2.1, C.2.2.2.2.1, C.2.2.2.2.2.1⟩ (hC al H.size) ⟨callB_of n C.2.2.2.2.2.1 (xa_goodw ⟨k1, k2, k3⟩) rfl rfl rfl (C.2.2.2.2.2.1 _ k1) (C.2.2.2.2.2.1 _ k4) k3 hR, C.2.2.2.2.2.1 _ k5⟩ (xa_preS hP hD C.2.2.2.2.2.2.2.2.1) rfl (by rw [List.length_map]; exact hn) hml hsk (lv_room (by rw [xa_catsum]; exact hw)) hd ⟨by omega, by omega⟩
  refine xa_afterA hrun hS hA (fun al2 r L2 hi2 hr2 H1 locs1 hag hp hP1 hD1 hS1 => ?_)
  have est : st.map (xa_cv al) = st.map (xa_cv al2) := List.map_congr_left (fun v hv => by cases v <;> first | rfl | (rename_i q; show Value.ref (al q) = Value.ref (al2 q); rw [hag q (hst q hv)]))
  rw [est, xa_toList]
  exact kk r L2 hi2 hr2 hp p e s m args below meth c al0 al2 H1 locs1 _ _ lm C (fun a ha => (hag a (hZ a ha)).trans (hN a ha)) hP1 hD1 hS1 ⟨lv, f1, f2, fun i v hv => by
    have h4 := f3 i v hv
    cases v <;> first | exact h4 | (rename_i q; have h5 := hag q (hlr q (List.mem_of_getElem? hv)); show (i, Value.ref (al2 q)) ∈ lv; rw [h5]; exact h4)⟩ (by omega) (by omega)
theorem xa_callSNA {Post : Option Value → List Nat → xa_AH → xa_AR → Prop} (hT : xa_CSN M.1.cls idx M2 n) (hd : decode M.2.1 pc = .ok (.invokestatic idx, 3)) (hC : xa_CtA E M2 as L hi hr Post) (hsk : stk = as.reverse ++ st) (hn : as.length = n) (hR : M2.2.2.2.2.frames + 1 ≤ M.2.2.2.2.frames ∧ 8 + (M2.2.2.1 + 11) + M2.2.2.2.2.locals ≤ M.2.2.2.2.locals) (hw : (st.map fun v => v.category).sum ≤ 8) (hkc : M2.2.2.2.2.cells ≤ kc) (hks : M2.2.2.2.2.slots ≤ ks) (hZ : ∀ a, Z.2.2.2 a → a ∈ L) (hst : ∀ a, Value.ref a ∈ st → a ∈ L) (hlr : ∀ a, some (Value.ref a) ∈ ls → a ∈ L) (kk : ∀ (r : Option Value) (L2 : List Nat) (hi2 : xa_AH) (hr2 : xa_AR), Post r L2 hi2 hr2 → xa_W E M Z (kc - M2.2.2.2.2.cells) (ks - M2.2.2.2.2.slots) (pc + 3) ls (r.toList ++ st) L2 hi2 hr2) : xa_W E M Z kc ks pc ls stk L hi hr := by
  intro p e s m args below meth c al0 al H locs cells slots lm C hN hP hD hS hl hc hs
  subst hsk
  obtain ⟨⟨k1, k2, k3⟩, ⟨hh, k4⟩, k5⟩ := hT
  obtain ⟨lv, f1, f2, f3⟩ := id hl
  have hml := f1.1
  have hsk : (as.reverse ++ st).map (xa_cv al) = (as.map (xa_cv al)).reverse ++ st.map (xa_cv al) := by simp [List.map_reverse, xa_cv]
  have hA := xa_sub_own hD hS xa_own_new
  have hrun := va_runSN (p := p) (l := E.1) (e := e) (below := below) (meth := meth) (locs := locs) (cells := cells) (slots := slots) (H := H) (g := F0 m pc lm ((as.reverse ++ st).map (xa_cv al))) (As := as.map (xa_cv al)) (rest := st.map (xa_cv al)) (nL := M.2.2.1) (index := idx) (bytes := M2.2.1) (maxL := M2.2.2.1) ⟨C.1, C.2.1, C.2.2.2.1, C.2.2.2.2.1, C.2.2.2.2.2.1⟩ (hC al H.size) ⟨va_cnB n C.2.2.2.2.2.1 (xa_goodw ⟨k1, k2, k3⟩) rfl rfl rfl (C.2.2.2.2.2.2.2.2.1.2.1 _ k4) (C.2.2.2.2.2.1 _ k1) k3 hR, C.2.2.2.2.2.1 _ k5, trivial⟩ (xa_preS hP hD C.2.2.2.2.2.2.2.2.1) rfl (by rw [List.length_map]; exact hn) hml hsk (lv_room (by rw [xa_catsum]; exact hw)) hd ⟨by omega, by omega⟩
  refine xa_afterA hrun hS hA (fun al2 r L2 hi2 hr2 H1 locs1 hag hp hP1 hD1 hS1 => ?_)
  have est : st.map (xa_cv al) = st.map (xa_cv al2) := List.map_congr_left (fun v hv => by cases v <;> first | rfl | (rename_i q; show Value.ref (al q) = Value.ref (al2 q); rw [hag q (hst q hv)]))
  rw [est, xa_toList]
  exact kk r L2 hi2 hr2 hp p e s m args below meth c al0 al2 H1 locs1 _ _ lm C (fun a ha => (hag a (hZ a ha)).trans (hN a ha)) hP1 hD1 hS1 ⟨lv, f1, f2, fun i v hv => by
    have h4 := f3 i v hv
    cases v <;> first | exact h4 | (rename_i q; have h5 := hag q (hlr q (List.mem_of_getElem? hv)); show (i, Value.ref (al2 q)) ∈ lv; rw [h5]; exact h4)⟩ (by omega) (by omega)
theorem xa_callIA {Post : Option Value → List Nat → xa_AH → xa_AR → Prop} {b : Nat} (hT : xa_CI M.1.cls idx M2 n) (hd : decode M.2.1 pc = .ok (.invokespecial idx, 3)) (hC : xa_CtA E M2 (.ref b :: as) L hi hr Post) (hsk : stk = as.reverse ++ .ref b :: st) (hn : as.length = n) (hR : M2.2.2.2.2.frames + 1 ≤ M.2.2.2.2.frames ∧ 8 + (M2.2.2.1 + 11) + M2.2.2.2.2.locals ≤ M.2.2.2.2.locals) (hw : (st.map fun v => v.category).sum ≤ 8) (hkc : M2.2.2.2.2.cells ≤ kc) (hks : M2.2.2.2.2.slots ≤ ks) (hZ : ∀ a, Z.2.2.2 a → a ∈ L) (hst : ∀ a, Value.ref a ∈ st → a ∈ L) (hlr : ∀ a, some (Value.ref a) ∈ ls → a ∈ L) (kk : ∀ (r : Option Value) (L2 : List Nat) (hi2 : xa_AH) (hr2 : xa_AR), Post r L2 hi2 hr2 → xa_W E M Z (kc - M2.2.2.2.2.cells) (ks - M2.2.2.2.2.slots) (pc + 3) ls (r.toList ++ st) L2 hi2 hr2) : xa_W E M Z kc ks pc ls stk L hi hr := by
  intro p e s m args below meth c al0 al H locs cells slots lm C hN hP hD hS hl hc hs
  subst hsk
  obtain ⟨⟨k1, k2, k3⟩, k4, k5, k6, k7⟩ := hT
  obtain ⟨lv, f1, f2, f3⟩ := id hl
  have hml := f1.1
  have hsk : (as.reverse ++ .ref b :: st).map (xa_cv al) = (as.map (xa_cv al)).reverse ++ .ref (al b) :: st.map (xa_cv al) := by simp [List.map_reverse, xa_cv]
  have hA := xa_sub_own hD hS xa_own_new
  have hrun := va_runI (p := p) (l := E.1) (e := e) (below := below) (meth := meth) (locs := locs) (cells := cells) (slots := slots) (H := H) (g := F0 m pc lm ((as.reverse ++ .ref b :: st).map (xa_cv al))) (b := al b) (As := as.map (xa_cv al)) (rest := st.map (xa_cv al)) (nL := M.2.2.1) (index := idx) (bytes := M2.2.1) (maxL := M2.2.2.1) ⟨C.1, C.2.1, C.2.2.2.1, C.2.2.2.2.1, C.2.2.2.2.2.1⟩ (hC al H.size) ⟨callB_of n C.2.2.2.2.2.1 (xa_goodw ⟨k1, k2, k3⟩) (by show Cond.code _ _ _ M2.2.2.2.1 :: _ = _; rw [k7]) rfl rfl (C.2.2.2.2.2.1 _ k1) (C.2.2.2.2.2.1 _ k4) k3 hR, k5, C.2.2.2.2.2.1 _ k6⟩ (xa_preS hP hD C.2.2.2.2.2.2.2.2.1) rfl (by rw [List.length_map]; exact hn) hml hsk (lv_room (by rw [xa_catsum]; exact hw)) hd ⟨by omega, by omega⟩
  refine xa_afterA hrun hS hA (fun al2 r L2 hi2 hr2 H1 locs1 hag hp hP1 hD1 hS1 => ?_)
  have est : st.map (xa_cv al) = st.map (xa_cv al2) := List.map_congr_left (fun v hv => by cases v <;> first | rfl | (rename_i q; show Value.ref (al q) = Value.ref (al2 q); rw [hag q (hst q hv)]))
  rw [est, xa_toList]
  exact kk r L2 hi2 hr2 hp p e s m args below meth c al0 al2 H1 locs1 _ _ lm C (fun a ha => (hag a (hZ a ha)).trans (hN a ha)) hP1 hD1 hS1 ⟨lv, f1, f2, fun i v hv => by
    have h4 := f3 i v hv
    cases v <;> first | exact h4 | (rename_i q; have h5 := hag q (hlr q (List.mem_of_getElem? hv)); show (i, Value.ref (al2 q)) ∈ lv; rw [h5]; exact h4)⟩ (by omega) (by omega)
theorem xa_callINA {Post : Option Value → List Nat → xa_AH → xa_AR → Prop} {b : Nat} (hT : xa_CIN M.1.cls idx M2 n) (hd : decode M.2.1 pc = .ok (.invokespecial idx, 3)) (hC : xa_CtA E M2 (.ref b :: as) L hi hr Post) (hsk : stk = as.reverse ++ .ref b :: st) (hn : as.length = n) (hR : M2.2.2.2.2.frames + 1 ≤ M.2.2.2.2.frames ∧ 8 + (M2.2.2.1 + 11) + M2.2.2.2.2.locals ≤ M.2.2.2.2.locals) (hw : (st.map fun v => v.category).sum ≤ 8) (hkc : M2.2.2.2.2.cells ≤ kc) (hks : M2.2.2.2.2.slots ≤ ks) (hZ : ∀ a, Z.2.2.2 a → a ∈ L) (hst : ∀ a, Value.ref a ∈ st → a ∈ L) (hlr : ∀ a, some (Value.ref a) ∈ ls → a ∈ L) (kk : ∀ (r : Option Value) (L2 : List Nat) (hi2 : xa_AH) (hr2 : xa_AR), Post r L2 hi2 hr2 → xa_W E M Z (kc - M2.2.2.2.2.cells) (ks - M2.2.2.2.2.slots) (pc + 3) ls (r.toList ++ st) L2 hi2 hr2) : xa_W E M Z kc ks pc ls stk L hi hr := by
  intro p e s m args below meth c al0 al H locs cells slots lm C hN hP hD hS hl hc hs
  subst hsk
  obtain ⟨⟨k1, k2, k3⟩, ⟨hh, k4⟩, k5, k6, k7⟩ := hT
  obtain ⟨lv, f1, f2, f3⟩ := id hl
  have hml := f1.1
  have hsk : (as.reverse ++ .ref b :: st).map (xa_cv al) = (as.map (xa_cv al)).reverse ++ .ref (al b) :: st.map (xa_cv al) := by simp [List.map_reverse, xa_cv]
  have hA := xa_sub_own hD hS xa_own_new
  have hrun := va_runIN (p := p) (l := E.1) (e := e) (below := below) (meth := meth) (locs := locs) (cells := cells) (slots := slots) (H := H) (g := F0 m pc lm ((as.reverse ++ .ref b :: st).map (xa_cv al))) (b := al b) (As := as.map (xa_cv al)) (rest := st.map (xa_cv al)) (nL := M.2.2.1) (index := idx) (bytes := M2.2.1) (maxL := M2.2.2.1) ⟨C.1, C.2.1, C.2.2.2.1, C.2.2.2.2.1, C.2.2.2.2.2.1⟩ (hC al H.size) ⟨va_cnB n C.2.2.2.2.2.1 (xa_goodw ⟨k1, k2, k3⟩) (by show Cond.code _ _ _ M2.2.2.2.1 :: _ = _; rw [k7]) rfl rfl (C.2.2.2.2.2.2.2.2.1.2.1 _ k4) (C.2.2.2.2.2.1 _ k1) k3 hR, k5, C.2.2.2.2.2.1 _ k6⟩ (xa_preS hP hD C.2.2.2.2.2.2.2.2.1) rfl (by rw [List.length_map]; exact hn) hml hsk (lv_room (by rw [xa_catsum]; exact hw)) hd ⟨by omega, by omega⟩
  refine xa_afterA hrun hS hA (fun al2 r L2 hi2 hr2 H1 locs1 hag hp hP1 hD1 hS1 => ?_)
  have est : st.map (xa_cv al) = st.map (xa_cv al2) := List.map_congr_left (fun v hv => by cases v <;> first | rfl | (rename_i q; show Value.ref (al q) = Value.ref (al2 q); rw [hag q (hst q hv)]))
  rw [est, xa_toList]
  exact kk r L2 hi2 hr2 hp p e s m args below meth c al0 al2 H1 locs1 _ _ lm C (fun a ha => (hag a (hZ a ha)).trans (hN a ha)) hP1 hD1 hS1 ⟨lv, f1, f2, fun i v hv => by
    have h4 := f3 i v hv
    cases v <;> first | exact h4 | (rename_i q; have h5 := hag q (hlr q (List.mem_of_getElem? hv)); show (i, Value.ref (al2 q)) ∈ lv; rw [h5]; exact h4)⟩ (by omega) (by omega)
end XA7
