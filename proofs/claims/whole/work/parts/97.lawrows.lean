/-! ===== the law's own rows ===== -/
def R_law : String := "WhoIsThereLaw"
def lw_P (b : Addr) (xs : List Int32) (args : Array Value) (s : State) : Prop := args = #[.ref b] ∧ s.IntsAt b xs ∧ xs.length ≤ 3072 ∧ (Jvm.Cond.and given_1 narrow_1).before args s = true
def lw_Q (_ : Array Value) (s : State) (o : Outcome) (t : State) : Prop := o = .returned (some (.int 1)) ∧ Framed s o t [] 600000 7302250
def lw_Z (below : List Frame) (a : Array Value) (s : State) : State → Prop := fun t => ∃ o, t.status = .running ∧ Ended t below o ∧ lw_Q a s o t
theorem xl_ret0 {p : Program} {l : Launch} {e : Env} {s : State} {m : MethodId} {args : Array Value} {below : List Frame} {meth : Method} {c : Code} (hx : p.tables.exec = Jvm.exec) (hb : c.code = code) (hr : meth.sig.returnType = ret) (hlocks : meth.locks = false) {pc : Nat} {H : Heap} {ls : Array Slot} (hdg : decode code pc = .ok (.ireturn, 1)) : W p l e room_1 s m args below meth c H [] 600000 7302250 (lw_Z below args s) (F0 m pc ls [.int 1]) := by
  intro T hT X
  obtain ⟨fs, hret, hrun, hended, hW, hframe⟩ := X.leave (v := some (.int 1)) (hlocks := hlocks) (fun h => by rw [hr] at h; cases h)
  have hmeth' : T.vm.method? m = some meth := X.method'
  refine ⟨T.setFrames fs, ?_, .returned (some (.int 1)), hrun, hended, rfl, ⟨_, rfl⟩, hW, hframe⟩
  jvm_step X.here [X.here.top, hx, hb, hdg, hmeth', hr, ret, narrow_b1]
  (try refine ⟨rfl, ?_⟩); (try refine ⟨rfl, ?_⟩)
  first | (intro acts; rw [hret _ acts rfl rfl rfl]) | rw [hret _ _ rfl rfl rfl]
  exact Steps.refl _
def zL (b Ls : Nat) (xs : Nat → Int32) : xa_ZC := (fun s args below _ => lw_Z below args s, fun s al0 => al0 191 = b ∧ va_X b Ls xs s s.heap ∧ b < s.heap.size, [], fun a => a = 191)
section XL
variable {E : xa_EV} {kc ks pc b Ls : Nat} {xs : Nat → Int32} {ls : List (Option Value)} {st : List Value} {L : List Nat} {hi : xa_AH} {hr : xa_AR}
theorem xl_nown {al0 : Nat → Nat} {sz q : Nat} (h : q < sz) : ¬ xa_own al0 [] sz q := by
  rintro (⟨a, ha, _⟩ | z)
  · cases ha
  · omega
theorem xl_sld {i : Int32} (j : Nat) (hd : decode code pc = .ok (.iaload, 1)) (hi0 : i = nI j) (hj : j < Ls) (hL : Ls ≤ 3072) (k : xa_W E mL (zL b Ls xs) kc ks (pc + 1) ls (.int (xs j) :: st) L hi hr) : xa_W E mL (zL b Ls xs) kc ks pc ls (.int i :: .ref 191 :: st) L hi hr := by
  intro p e s m args below meth c al0 al H locs cells slots lm C hN hP hD hS hl hc hs
  obtain ⟨z1, z2, z3⟩ := C.2.2.2.2.2.2.2.2.2
  have e191 : al 191 = b := (hN 191 rfl).trans z1
  subst hi0
  show W p E.1 e room_1 s m args below meth c H locs cells slots _ (F0 m pc lm (.int (nI j) :: .ref (al 191) :: st.map (xa_cv al)))
  rw [e191]
  have q := va_sld (cc := code) C.1 C.2.1 z2 z3 (xl_nown (al0 := al0) z3) hS (vp_in_nI hj (by omega)) hd (rest := st.map (xa_cv al)) (ls := lm) (kk := by
    rw [show (nI j).toNatClampNeg = j from xc_n (by omega)]
    exact k p e s m args below meth c al0 al H locs cells slots lm C hN hP hD hS hl hc hs)
  exact q
theorem xl_slen (hd : decode code pc = .ok (.arraylength, 1)) (k : xa_W E mL (zL b Ls xs) kc ks (pc + 1) ls (.int (Int32.ofNat Ls) :: st) L hi hr) : xa_W E mL (zL b Ls xs) kc ks pc ls (.ref 191 :: st) L hi hr := by
  intro p e s m args below meth c al0 al H locs cells slots lm C hN hP hD hS hl hc hs
  obtain ⟨z1, z2, z3⟩ := C.2.2.2.2.2.2.2.2.2
  have e191 : al 191 = b := (hN 191 rfl).trans z1
  show W p E.1 e room_1 s m args below meth c H locs cells slots _ (F0 m pc lm (.ref (al 191) :: st.map (xa_cv al)))
  rw [e191]
  exact va_slen (cc := code) C.1 C.2.1 z2 z3 (xl_nown (al0 := al0) z3) hS hd (rest := st.map (xa_cv al)) (ls := lm) (k p e s m args below meth c al0 al H locs cells slots lm C hN hP hD hS hl hc hs)
theorem xl_ret (hd : decode code pc = .ok (.ireturn, 1)) : xa_W E mL (zL b Ls xs) kc ks pc ls [.int 1] L hi hr := by
  intro p e s m args below meth c al0 al H locs cells slots lm C hN hP hD hS hl hc hs
  refine va_forget (fun q hq => ?_) ?_
  · rcases hS.2.2 q hq with ⟨a, ha, _⟩ | z
    · cases ha
    · exact z
  · have hc2 : cells ≤ 600000 := by have : cells + kc ≤ 600000 := hc; omega
    have hs2 : slots ≤ 7302250 := by have : slots + ks ≤ 7302250 := hs; omega
    refine W.widen (k := 600000) (n := 7302250) hc2 hs2 ?_
    exact xl_ret0 C.1 C.2.1 C.2.2.1 C.2.2.2.2.2.2.1 hd
theorem xa_wk {M : xa_MC} {Z : xa_ZC} {kc2 ks2 : Nat} (h1 : kc2 ≤ kc) (h2 : ks2 ≤ ks) (k : xa_W E M Z kc2 ks2 pc ls st L hi hr) : xa_W E M Z kc ks pc ls st L hi hr := by
  intro p e s m args below meth c al0 al H locs cells slots lm C hN hP hD hS hl hc hs
  exact k p e s m args below meth c al0 al H locs cells slots lm C hN hP hD hS hl (by omega) (by omega)
end XL
section XLC
variable {E : xa_EV} {M : xa_MC} {Z : xa_ZC} {kc ks pc : Nat} {ls : List (Option Value)} {st stk : List Value} {La : List Nat} {T S : xa_AH} {R : xa_AR} {M2 : xa_MC} {as : List Value} {idx n : Nat}
/-- a call of the class's, beside the reference -/
theorem xl_callC {Post : Option Value → xa_AH → xa_AR → Prop} {b ci : Nat} {Tt : u_T} {N : Nat} (hok : ∀ a, a ∈ La → a % 256 < 130) (hb : b ∈ La) (hk : xa_kd b = ci) (hcl : xa_cl[ci]? = some (M2.1.cls, Tt, N)) (hT : xa_CV M.1.cls idx M2 n) (hd : decode M.2.1 pc = .ok (.invokevirtual idx, 3)) (hC : xa_Ct E M2 (.ref b :: as) La T R Post) (hsk : stk = as.reverse ++ .ref b :: st) (hn : as.length = n) (hR : M2.2.2.2.2.frames + 1 ≤ M.2.2.2.2.frames ∧ 8 + (M2.2.2.1 + 11) + M2.2.2.2.2.locals ≤ M.2.2.2.2.locals) (hw : (st.map fun v => v.category).sum ≤ 8) (hz : M2.2.2.2.2.cells = 0 ∧ M2.2.2.2.2.slots = 0) (kk : ∀ (r : Option Value) (T2 : xa_AH) (R2 : xa_AR), Post r T2 R2 → xa_W E M Z kc ks (pc + 3) ls (r.toList ++ st) (La ++ xm_L) (jT T2 S) (jR R2)) : xa_W E M Z kc ks pc ls stk (La ++ xm_L) (jT T S) (jR R) := by
  intro p e s m args below meth c al0 al H locs cells slots lm C hN hP hD hS hl hc hs
  subst hsk
  obtain ⟨⟨k1, k2, k3⟩, k4, k5, k6⟩ := hT
  obtain ⟨lv, f1, f2, f3⟩ := id hl
  have hml := f1.1
  have hsk : (as.reverse ++ .ref b :: st).map (xa_cv al) = (as.map (xa_cv al)).reverse ++ .ref (al b) :: st.map (xa_cv al) := by simp [List.map_reverse, xa_cv]
  have hP0 := hP
  have hD0 := hD
  rw [xa_wd_app] at hP0 hD0
  obtain ⟨pA, pB⟩ := va_P_app.mp hP0
  obtain ⟨dA, dB, dX⟩ := va_D_app hD0
  have pA2 := pA
  have dA2 := dA
  rw [wd_cls hok] at pA2 dA2
  have hA := xa_sub_own dA2 hS xa_own_new
  have hrun := va_runV (p := p) (l := E.1) (e := e) (below := below) (meth := meth) (locs := locs) (cells := cells) (slots := slots) (H := H) (g := F0 m pc lm ((as.reverse ++ .ref b :: st).map (xa_cv al))) (b := al b) (As := as.map (xa_cv al)) (rest := st.map (xa_cv al)) (nL := M.2.2.1) (index := idx) (bytes := M2.2.1) (maxL := M2.2.2.1) ⟨C.1, C.2.1, C.2.2.2.1, C.2.2.2.2.1, C.2.2.2.2.2.1⟩ (hC al H.size) ⟨callB_of n C.2.2.2.2.2.1 (xa_goodw ⟨k1, k2, k3⟩) rfl rfl rfl (C.2.2.2.2.2.1 _ k1) (C.2.2.2.2.2.1 _ k4) k3 hR, C.2.2.2.2.2.1 _ k5, C.2.2.2.2.2.1 _ k6⟩ ⟨xa_blind, xa_recv C.2.2.2.2.2.2.2.2.1 pA2 hb hk hcl, (xa_preS pA2 dA2 C.2.2.2.2.2.2.2.2.1).2⟩ rfl (by rw [List.length_map]; exact hn) hml hsk (lv_room (by rw [xa_catsum]; exact hw)) hd (by rw [hz.1, hz.2]; exact ⟨by omega, by omega⟩)
  refine xa_afterF hrun hS hA (fun r T2 R2 H1 locs1 hp hP1 hS1 hk1 => ?_)
  rw [xa_toList]
  have pB1 := va_P_rest (A := fun _ => True) pB dX hk1
  rw [wd_ref] at pB1
  refine kk r T2 R2 hp p e s m args below meth c al0 al H1 locs1 _ _ lm C hN ?_ (xa_D_same hD) hS1 hl (by rw [hz.1]; exact hc) (by rw [hz.2]; exact hs)
  rw [xa_wd_app, wd_cls hok, wd_ref]
  exact va_P_app.mpr ⟨hP1, pB1⟩
/-- a call of the reference's, beside the class -/
theorem xl_callM {S2 : xa_AH} {v : Value} {ci : Nat} {Tt : u_T} {N : Nat} (hok : ∀ a, a ∈ La → a % 256 < 130) (hk : xa_kd 130 = ci) (hcl : xa_cl[ci]? = some (M2.1.cls, Tt, N)) (hT : xa_CV M.1.cls idx M2 n) (hd : decode M.2.1 pc = .ok (.invokevirtual idx, 3)) (hC : xa_Ct E M2 (.ref 130 :: as) xm_L S xm_R (xa_pR v S2 xm_R)) (hsk : stk = as.reverse ++ .ref 130 :: st) (hn : as.length = n) (hR : M2.2.2.2.2.frames + 1 ≤ M.2.2.2.2.frames ∧ 8 + (M2.2.2.1 + 11) + M2.2.2.2.2.locals ≤ M.2.2.2.2.locals) (hw : (st.map fun v => v.category).sum ≤ 8) (hz : M2.2.2.2.2.cells = 0 ∧ M2.2.2.2.2.slots = 0) (kk : xa_W E M Z kc ks (pc + 3) ls (v :: st) (La ++ xm_L) (jT T S2) (jR R)) : xa_W E M Z kc ks pc ls stk (La ++ xm_L) (jT T S) (jR R) := by
  intro p e s m args below meth c al0 al H locs cells slots lm C hN hP hD hS hl hc hs
  subst hsk
  obtain ⟨⟨k1, k2, k3⟩, k4, k5, k6⟩ := hT
  obtain ⟨lv, f1, f2, f3⟩ := id hl
  have hml := f1.1
  have hsk : (as.reverse ++ .ref 130 :: st).map (xa_cv al) = (as.map (xa_cv al)).reverse ++ .ref (al 130) :: st.map (xa_cv al) := by simp [List.map_reverse, xa_cv]
  have hP0 := hP
  have hD0 := hD
  rw [xa_wd_app] at hP0 hD0
  obtain ⟨pA, pB⟩ := va_P_app.mp hP0
  obtain ⟨dA, dB, dX⟩ := va_D_app hD0
  have pB2 := pB
  have dB2 := dB
  rw [wd_ref] at pB2 dB2
  have hA := xa_sub_own dB2 hS xa_own_new
  have hrun := va_runV (p := p) (l := E.1) (e := e) (below := below) (meth := meth) (locs := locs) (cells := cells) (slots := slots) (H := H) (g := F0 m pc lm ((as.reverse ++ .ref 130 :: st).map (xa_cv al))) (b := al 130) (As := as.map (xa_cv al)) (rest := st.map (xa_cv al)) (nL := M.2.2.1) (index := idx) (bytes := M2.2.1) (maxL := M2.2.2.1) ⟨C.1, C.2.1, C.2.2.2.1, C.2.2.2.2.1, C.2.2.2.2.2.1⟩ (hC al H.size) ⟨callB_of n C.2.2.2.2.2.1 (xa_goodw ⟨k1, k2, k3⟩) rfl rfl rfl (C.2.2.2.2.2.1 _ k1) (C.2.2.2.2.2.1 _ k4) k3 hR, C.2.2.2.2.2.1 _ k5, C.2.2.2.2.2.1 _ k6⟩ ⟨xa_blind, xa_recv C.2.2.2.2.2.2.2.2.1 pB2 xm_o hk hcl, (xa_preS pB2 dB2 C.2.2.2.2.2.2.2.2.1).2⟩ rfl (by rw [List.length_map]; exact hn) hml hsk (lv_room (by rw [xa_catsum]; exact hw)) hd (by rw [hz.1, hz.2]; exact ⟨by omega, by omega⟩)
  refine xa_afterF hrun hS hA (fun r T2 R2 H1 locs1 hp hP1 hS1 hk1 => ?_)
  obtain ⟨rfl, rfl, rfl⟩ := hp
  rw [xa_toList]
  have pA1 := va_P_rest (A := fun _ => True) (L1 := xm_L) pA (fun q hq r hr e => dX r hr q hq e.symm) hk1
  rw [wd_cls hok] at pA1
  refine kk p e s m args below meth c al0 al H1 locs1 _ _ lm C hN ?_ (xa_D_same hD) hS1 hl (by rw [hz.1]; exact hc) (by rw [hz.2]; exact hs)
  rw [xa_wd_app, wd_cls hok, wd_ref]
  exact va_P_app.mpr ⟨pA1, hP1⟩
/-- a call of the class's that makes cells -/
theorem xl_callA {Post : Option Value → List Nat → xa_AH → xa_AR → Prop} {b ci : Nat} {Tt : u_T} {N : Nat} (hok : ∀ a, a ∈ La → a % 256 < 130) (hPo : ∀ r L2 T2 R2, Post r L2 T2 R2 → (∃ v, r = some (.int v)) ∧ (∀ a, a ∈ L2 → a % 256 < 130) ∧ ∀ a k x, R2 a k = some x → x ∈ L2) (hb : b ∈ La) (hk : xa_kd b = ci) (hcl : xa_cl[ci]? = some (M2.1.cls, Tt, N)) (hT : xa_CV M.1.cls idx M2 n) (hd : decode M.2.1 pc = .ok (.invokevirtual idx, 3)) (hC : xa_CtA E M2 (.ref b :: as) La T R Post) (hsk : stk = as.reverse ++ .ref b :: st) (hn : as.length = n) (hR : M2.2.2.2.2.frames + 1 ≤ M.2.2.2.2.frames ∧ 8 + (M2.2.2.1 + 11) + M2.2.2.2.2.locals ≤ M.2.2.2.2.locals) (hw : (st.map fun v => v.category).sum ≤ 8) (hkc : M2.2.2.2.2.cells ≤ kc) (hks : M2.2.2.2.2.slots ≤ ks) (hZ : ∀ a, Z.2.2.2 a → ¬ a % 256 < 130) (hst : ∀ a, Value.ref a ∈ st → a ∈ La ∨ ¬ a % 256 < 130) (hlr : ∀ a, some (Value.ref a) ∈ ls → a ∈ La ∨ ¬ a % 256 < 130) (kk : ∀ (r : Option Value) (L2 : List Nat) (T2 : xa_AH) (R2 : xa_AR), Post r L2 T2 R2 → xa_W E M Z (kc - M2.2.2.2.2.cells) (ks - M2.2.2.2.2.slots) (pc + 3) ls (r.toList ++ st) (L2 ++ xm_L) (jT T2 S) (jR R2)) : xa_W E M Z kc ks pc ls stk (La ++ xm_L) (jT T S) (jR R) := by
  intro p e s m args below meth c al0 al H locs cells slots lm C hN hP hD hS hl hc hs
  subst hsk
  obtain ⟨⟨k1, k2, k3⟩, k4, k5, k6⟩ := hT
  obtain ⟨lv, f1, f2, f3⟩ := id hl
  have hml := f1.1
  have hsk : (as.reverse ++ .ref b :: st).map (xa_cv al) = (as.map (xa_cv al)).reverse ++ .ref (al b) :: st.map (xa_cv al) := by simp [List.map_reverse, xa_cv]
  have hP0 := hP
  have hD0 := hD
  rw [xa_wd_app] at hP0 hD0
  obtain ⟨pA, pB⟩ := va_P_app.mp hP0
  obtain ⟨dA, dB, dX⟩ := va_D_app hD0
  have pA2 := pA
  have dA2 := dA
  rw [wd_cls hok] at pA2 dA2
  have hA := xa_sub_own dA2 hS xa_own_new
  have hrun := va_runV (p := p) (l := E.1) (e := e) (below := below) (meth := meth) (locs := locs) (cells := cells) (slots := slots) (H := H) (g := F0 m pc lm ((as.reverse ++ .ref b :: st).map (xa_cv al))) (b := al b) (As := as.map (xa_cv al)) (rest := st.map (xa_cv al)) (nL := M.2.2.1) (index := idx) (bytes := M2.2.1) (maxL := M2.2.2.1) ⟨C.1, C.2.1, C.2.2.2.1, C.2.2.2.2.1, C.2.2.2.2.2.1⟩ (hC al H.size) ⟨callB_of n C.2.2.2.2.2.1 (xa_goodw ⟨k1, k2, k3⟩) rfl rfl rfl (C.2.2.2.2.2.1 _ k1) (C.2.2.2.2.2.1 _ k4) k3 hR, C.2.2.2.2.2.1 _ k5, C.2.2.2.2.2.1 _ k6⟩ ⟨xa_blind, xa_recv C.2.2.2.2.2.2.2.2.1 pA2 hb hk hcl, (xa_preS pA2 dA2 C.2.2.2.2.2.2.2.2.1).2⟩ rfl (by rw [List.length_map]; exact hn) hml hsk (lv_room (by rw [xa_catsum]; exact hw)) hd ⟨by omega, by omega⟩
  refine xa_afterAF hrun hS hA (fun al2 r L2 T2 R2 H1 locs1 hag hp hP1 hD1 hS1 hk1 => ?_)
  obtain ⟨⟨v, rfl⟩, hok2, hcl2⟩ := hPo _ _ _ _ hp
  obtain ⟨al3, e3⟩ : ∃ al3 : Nat → Nat, al3 = fun a => if a % 256 < 130 then al2 a else al a := ⟨_, rfl⟩
  have a1 : ∀ a, a % 256 < 130 → al3 a = al2 a := fun a h => by rw [e3]; exact if_pos h
  have a2 : ∀ a, ¬ a % 256 < 130 → al3 a = al a := fun a h => by rw [e3]; exact if_neg h
  have a3 : ∀ a, a ∈ La ∨ ¬ a % 256 < 130 → al3 a = al a := fun a h => by
    rcases h with h | h
    · rw [a1 a (hok a h), hag a h]
    · exact a2 a h
  have est : st.map (xa_cv al) = st.map (xa_cv al3) := List.map_congr_left (fun v hv => by cases v <;> first | rfl | (rename_i q; show Value.ref (al q) = Value.ref (al3 q); rw [a3 q (hst q hv)]))
  have w1 : xa_wd E.2.2 al3 L2 (jT T2 S) (jR R2) = xa_wd E.2.2 al2 L2 T2 R2 := by
    refine xa_wd_cong (fun a ha => a1 a (hok2 a ha)) (fun a ha => ?_) (fun a ha k => ?_)
    · have := hok2 a ha; unfold jT; rw [if_neg (by omega)]
    · have := hok2 a ha
      have e : jR R2 a k = R2 a k := by unfold jR; rw [if_neg (by omega)]
      rw [e]
      cases hx : R2 a k with
      | none => rfl
      | some y => show some (al3 y) = some (al2 y); rw [a1 y (hok2 y (hcl2 a k y hx))]
  have w2 : xa_wd E.2.2 al3 xm_L (jT T2 S) (jR R2) = xa_wd E.2.2 al xm_L (jT T S) (jR R) := by
    rw [wd_ref (al := al)]
    refine xa_wd_cong (fun a ha => a2 a (by have := xm_L_in ha; omega)) (fun a ha => by unfold jT; rw [if_pos (xm_L_in ha)]) (fun a ha k => ?_)
    have e : jR R2 a k = xm_R a k := by unfold jR; rw [if_pos (xm_L_in ha)]
    rw [e]
    cases hx : xm_R a k with
    | none => rfl
    | some y => show some (al3 y) = some (al y); rw [a2 y (by have := xm_R_in hx; omega)]
  have pB1 := va_P_rest (A := fun _ => True) pB dX hk1
  rw [est]
  show W p E.1 e M.2.2.2.2 s m args below meth c H1 locs1 _ _ _ (F0 m (pc + 3) lm ((Value.int v :: st).map (xa_cv al3)))
  refine kk (some (.int v)) L2 T2 R2 hp p e s m args below meth c al0 al3 H1 locs1 _ _ lm C (fun a ha => (a2 a (hZ a ha)).trans (hN a ha)) ?_ ?_ hS1 ⟨lv, f1, f2, fun i w hw => ?_⟩ (by omega) (by omega)
  · rw [xa_wd_app, w1, w2]; exact va_P_app.mpr ⟨hP1, pB1⟩
  · rw [xa_wd_app, w1, w2]
    refine va_D_mk (hD1.weaken (fun k q _ h => hA _ h)) dB (fun q hq r hr e => ?_)
    obtain ⟨i, hi⟩ := List.getElem?_of_mem hq
    obtain ⟨j, hj⟩ := List.getElem?_of_mem hr
    rcases hD1.2 i q hi with ⟨a, ha, ea⟩ | z
    · exact dX _ (wd_in ha) r hr (by rw [← e]; exact ea.symm)
    · have := (pB j r hj).lt
      rw [e] at z; omega
  · have h4 := f3 i w hw
    cases w <;> first | exact h4 | (rename_i q; show (i, Value.ref (al3 q)) ∈ lv; rw [a3 q (hlr q (List.mem_of_getElem? hw))]; exact h4)
end XLC
