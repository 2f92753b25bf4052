/-! ===== the law's beginning ===== -/
theorem xa_eqw {E : xa_EV} {M : xa_MC} {Z : xa_ZC} {kc ks pc : Nat} {ls : List (Option Value)} {st : List Value} {L : List Nat} {hi hi2 : xa_AH} {hr hr2 : xa_AR} (h1 : ∀ a, a ∈ L → hi2 a = hi a) (h2 : ∀ a, a ∈ L → ∀ k, hr2 a k = hr a k) (k : xa_W E M Z kc ks pc ls st L hi2 hr2) : xa_W E M Z kc ks pc ls st L hi hr := by
  intro p e s m args below meth c al0 al H locs cells slots lm C hN hP hD hS hl hc hs
  have e1 : xa_wd E.2.2 al L hi2 hr2 = xa_wd E.2.2 al L hi hr := xa_wd_cong (fun a _ => rfl) h1 (fun a ha k => by rw [h2 a ha k])
  exact k p e s m args below meth c al0 al H locs cells slots lm C hN (by rw [e1]; exact hP) (by rw [e1]; exact hD) hS hl hc hs
theorem fill_o {n a : Nat} {T : xa_AH} (h : a ≠ 163) : m8_fill n T a = T a := by
  unfold m8_fill
  exact lp_a (fun i S => up_o h) n T
theorem fill_n {T : xa_AH} : ∀ n j, j < n → m8_fill n T 163 j = -1
  | 0, j, h => absurd h (Nat.not_lt_zero j)
  | n + 1, j, h => by
    unfold m8_fill
    rw [xa_lp]
    by_cases e : j = n
    · subst e; exact up_s
    · rw [up_k e]; exact fill_n n j (by omega)
theorem m8_L : xm_L = 130 :: m8_as := rfl
theorem m8_R {k : Nat} (h : k ∉ m8_fs) : xm_R 130 k = none := by
  unfold xm_R
  rw [if_neg]
  rintro ⟨_, c⟩
  have hk : k < 60 := by
    rcases Nat.lt_or_ge k 60 with g | g
    · exact g
    · unfold xa_isR at c
      have e9 : (xa_rT.getD 8 [])[k]? = none := List.getElem?_eq_none (show 60 ≤ k from g)
      rw [List.getD_eq_getElem?_getD, e9] at c
      cases c
  have all : ∀ k, k < 60 → xa_isR 8 k = true → k ∈ m8_fs := by decide
  exact h (all k hk c)
def L7 : List Nat := [ci 0 129, ci 0 126, ci 0 127]
theorem RX_begin {T1 S : xa_AH} {R1 : xa_AR} (hT : ∀ y, T1 (ci 0 129) y = 0) (r0 : R1 (ci 0 129) 0 = some (ci 0 126)) (r1 : R1 (ci 0 129) 1 = some (ci 0 127)) (hcl : ∀ b k x, R1 b k = some x → x ∈ L7) (z0 : ∀ a, a ∈ xm_L → a ≠ 163 → ∀ y, S a y = 0) (z1 : ∀ y, y < 384 → S 163 y = -1) : RX 0 0 0 (fun _ => 0) L7 T1 R1 S := by
  have o : ∀ y, S 130 y = 0 := z0 130 (by decide) (by decide)
  have z : ∀ a y, a ∈ xm_L → a ≠ 163 → S a y = 0 := fun a y h1 h2 => z0 a h1 h2 y
  have rw0 : ∀ r, rowc S r := fun r => ⟨fun k _ => z 179 _ (by decide) (by decide), fun s _ => ⟨z 183 _ (by decide) (by decide), z 185 _ (by decide) (by decide), z 187 _ (by decide) (by decide)⟩⟩
  refine ⟨⟨by decide, by decide, by decide, r0, r1, fun h hh => absurd hh (Nat.not_lt_zero h), fun s hs => absurd hs (Nat.not_lt_zero s), hcl, fun h r _ hr c => ?_, fun s _ c => ?_, by decide⟩, fun h hh => absurd hh (Nat.not_lt_zero h), ⟨hT 2, hT 3, by rw [hT, o], by rw [hT, o], by rw [hT, o], by rw [hT, o], by rw [hT, o], by rw [hT, o], by rw [hT, o], by rw [hT, o], by rw [hT, o]⟩, fun h hh => absurd hh (Nat.not_lt_zero h), fun s hs => absurd hs (Nat.not_lt_zero s), fun h hh => absurd hh (Nat.not_lt_zero h), fun h hh => absurd hh (Nat.not_lt_zero h), fun h hh => absurd hh (Nat.not_lt_zero h), fun h hh => absurd hh (Nat.not_lt_zero h), fun i hi => absurd hi (Nat.not_lt_zero i), ⟨by decide, by decide, o 14, o 26, fun s hs => absurd hs (Nat.not_lt_zero s)⟩, fun h hh => absurd hh (Nat.not_lt_zero h), fun s hs => absurd hs (Nat.not_lt_zero s), fun h hh => absurd hh (Nat.not_lt_zero h), ⟨fun h _ _ => ⟨z 137 _ (by decide) (by decide), z 138 _ (by decide) (by decide), z 139 _ (by decide) (by decide), z 142 _ (by decide) (by decide), z 143 _ (by decide) (by decide), z 144 _ (by decide) (by decide)⟩, fun h _ h12 s hs => ⟨z 158 _ (by decide) (by decide), z 159 _ (by decide) (by decide), z 160 _ (by decide) (by decide), z 161 _ (by decide) (by decide), z 162 _ (by decide) (by decide), z1 _ (by omega)⟩, fun h _ _ k _ => ⟨z 164 _ (by decide) (by decide), z 165 _ (by decide) (by decide), z 166 _ (by decide) (by decide)⟩, fun h _ _ => ⟨rw0 _, rw0 _⟩, fun s _ _ => ⟨z 154 _ (by decide) (by decide), z 155 _ (by decide) (by decide), z 156 _ (by decide) (by decide)⟩⟩, ?_, ⟨Nat.le_refl _, rfl⟩, fun h hh => absurd hh (Nat.not_lt_zero h)⟩
  · simp only [L7, List.mem_cons, List.not_mem_nil, or_false] at c
    unfold ci at c; omega
  · simp only [L7, List.mem_cons, List.not_mem_nil, or_false] at c
    unfold ci at c; omega
  · unfold iv_g; rw [o]; exact xa_in_of (j := 0) (by decide) (by decide)
theorem xl_callI {E : xa_EV} {M : xa_MC} {Z : xa_ZC} {kc ks pc : Nat} {ls : List (Option Value)} {st stk : List Value} {L : List Nat} {hi : xa_AH} {hr : xa_AR} {M2 : xa_MC} {as : List Value} {idx n : Nat} {Post : Option Value → List Nat → xa_AH → xa_AR → Prop} {b : Nat} (hPo : ∀ r L2 T2 R2, Post r L2 T2 R2 → none = r ∧ 191 ∉ L2 ∧ ∀ a k x, R2 a k = some x → x ∈ L2) (hT : xa_CI M.1.cls idx M2 n) (hd : decode M.2.1 pc = .ok (.invokespecial idx, 3)) (hC : xa_CtA E M2 (.ref b :: as) L hi hr Post) (hsk : stk = as.reverse ++ .ref b :: st) (hn : as.length = n) (hR : M2.2.2.2.2.frames + 1 ≤ M.2.2.2.2.frames ∧ 8 + (M2.2.2.1 + 11) + M2.2.2.2.2.locals ≤ M.2.2.2.2.locals) (hw : (st.map fun v => v.category).sum ≤ 8) (hkc : M2.2.2.2.2.cells ≤ kc) (hks : M2.2.2.2.2.slots ≤ ks) (hZ : ∀ a, Z.2.2.2 a → a = 191) (hst : ∀ a, Value.ref a ∈ st → a ∈ L ∨ a = 191) (hlr : ∀ a, some (Value.ref a) ∈ ls → a ∈ L ∨ a = 191) (h191 : 191 ∉ L) (kk : ∀ (L2 : List Nat) (hi2 : xa_AH) (hr2 : xa_AR), Post none L2 hi2 hr2 → xa_W E M Z (kc - M2.2.2.2.2.cells) (ks - M2.2.2.2.2.slots) (pc + 3) ls st L2 hi2 hr2) : xa_W E M Z kc ks pc ls stk L hi hr := by
  intro p e s m args below meth c al0 al H locs cells slots lm C hN hP hD hS hl hc hs
  subst hsk
  obtain ⟨⟨k1, k2, k3⟩, k4, k5, k6, k7⟩ := hT
  obtain ⟨lv, f1, f2, f3⟩ := id hl
  have hml := f1.1
  have hsk : (as.reverse ++ .ref b :: st).map (xa_cv al) = (as.map (xa_cv al)).reverse ++ .ref (al b) :: st.map (xa_cv al) := by simp [List.map_reverse, xa_cv]
  have hA := xa_sub_own hD hS xa_own_new
  have hrun := va_runI (p := p) (l := E.1) (e := e) (below := below) (meth := meth) (locs := locs) (cells := cells) (slots := slots) (H := H) (g := F0 m pc lm ((as.reverse ++ .ref b :: st).map (xa_cv al))) (b := al b) (As := as.map (xa_cv al)) (rest := st.map (xa_cv al)) (nL := M.2.2.1) (index := idx) (bytes := M2.2.1) (maxL := M2.2.2.1) ⟨C.1, C.2.1, C.2.2.2.1, C.2.2.2.2.1, C.2.2.2.2.2.1⟩ (hC al H.size) ⟨callB_of n C.2.2.2.2.2.1 (xa_goodw ⟨k1, k2, k3⟩) (by show Cond.code _ _ _ M2.2.2.2.1 :: _ = _; rw [k7]) rfl rfl (C.2.2.2.2.2.1 _ k1) (C.2.2.2.2.2.1 _ k4) k3 hR, k5, C.2.2.2.2.2.1 _ k6⟩ (xa_preS hP hD C.2.2.2.2.2.2.2.2.1) rfl (by rw [List.length_map]; exact hn) hml hsk (lv_room (by rw [xa_catsum]; exact hw)) hd ⟨by omega, by omega⟩
  refine xa_afterA hrun hS hA (fun al2 r L2 hi2 hr2 H1 locs1 hag hp hP1 hD1 hS1 => ?_)
  obtain ⟨rfl, n2, hcl2⟩ := hPo _ _ _ _ hp
  obtain ⟨al3, e3⟩ : ∃ al3 : Nat → Nat, al3 = fun a => if a = 191 then al a else al2 a := ⟨_, rfl⟩
  have a1 : ∀ a, a ≠ 191 → al3 a = al2 a := fun a h => by rw [e3]; exact if_neg h
  have a2 : al3 191 = al 191 := by rw [e3]; exact if_pos rfl
  have a3 : ∀ a, a ∈ L ∨ a = 191 → al3 a = al a := fun a h => by
    rcases h with h | h
    · rw [a1 a (fun e => h191 (e ▸ h)), hag a h]
    · rw [h]; exact a2
  have est : st.map (xa_cv al) = st.map (xa_cv al3) := List.map_congr_left (fun v hv => by cases v <;> first | rfl | (rename_i q; show Value.ref (al q) = Value.ref (al3 q); rw [a3 q (hst q hv)]))
  have w1 : xa_wd E.2.2 al3 L2 hi2 hr2 = xa_wd E.2.2 al2 L2 hi2 hr2 := by
    refine xa_wd_cong (fun a ha => a1 a (fun e => n2 (e ▸ ha))) (fun a ha => rfl) (fun a ha k => ?_)
    cases hx : hr2 a k with
    | none => rfl
    | some y => show some (al3 y) = some (al2 y); rw [a1 y (fun e => n2 (e ▸ hcl2 a k y hx))]
  rw [est]
  exact kk L2 hi2 hr2 hp p e s m args below meth c al0 al3 H1 locs1 _ _ lm C (fun a ha => by rw [hZ a ha, a2, ← hZ a ha]; exact hN a ha) (by rw [w1]; exact hP1) (by rw [w1]; exact hD1) hS1 ⟨lv, f1, f2, fun i v hv => by
    have h4 := f3 i v hv
    cases v <;> first | exact h4 | (rename_i q; show (i, Value.ref (al3 q)) ∈ lv; rw [a3 q (hlr q (List.mem_of_getElem? hv))]; exact h4)⟩ (by omega) (by omega)
theorem m8_in {a : Nat} (h : a ∈ m8_as) : 131 ≤ a ∧ a ≤ 190 := by
  revert a; decide
set_option maxHeartbeats 4000000 in
theorem lw_entry (E : xa_EV) {b Ls : Nat} {xs : Nat → Int32} (hL : Ls ≤ 3072) : xa_W E mL (zL b Ls xs) 600000 7302250 0 [some (.ref 191), none, none, none] [] [] (fun _ _ => 0) (fun _ _ => none) := by
  refine xa_new (pc := 0) (ci 0 129) 7 lnL_7 dL_law_0 (kd_129 _) List.not_mem_nil (by show ¬ (ci 0 129 = 191); decide) List.not_mem_nil (by simp [ci]) (fun b k => by simp) (by decide) (by decide) ?_
  refine xa_dup (pc := 3) dL_law_3 rfl ?_
  refine xl_callI (pc := 4) (fun r L2 T2 R2 h => ⟨h.1, by rw [h.2.1]; decide, h.2.2.2.2.2.2⟩) lcL_9 dL_law_4 (cx_i7 E (List.mem_append_right _ List.mem_cons_self) zr_0 (zr_cl (fun b k x h => by cases h)) (fun r h1 h2 z => by simp at z; unfold ci at z; omega)) rfl rfl (by decide) (Nat.le_of_ble_eq_true rfl) (by decide) (by decide) (fun a ha => ha) (fun a ha => by simp at ha; rw [ha]; exact Or.inl (List.mem_append_right _ List.mem_cons_self)) (fun a ha => by simp at ha; exact Or.inr ha) (by decide) ?_
  rintro L1 T1 R1 ⟨_, acc⟩
  have eL : L1 = L7 := acc.1
  have m9 : ci 0 129 ∈ L1 := by rw [eL]; decide
  have n130 : 130 ∉ L1 := by rw [eL]; decide
  have hcl1 := acc.2.2.2.2.2
  refine xa_astore_n (pc := 7) dL_law_7 (by decide) ?_
  refine xa_new (pc := 8) 130 8 lnL_10 dL_law_8 rfl n130 (by show ¬ (130 = 191); decide) List.not_mem_nil (by simp [ci]) (fun b k z => n130 (hcl1 b k _ z)) (by decide) (by decide) ?_
  refine xa_dup (pc := 11) dL_law_11 rfl ?_
  refine xl_callI (pc := 12) (fun r L2 T2 R2 h => ⟨h.1, ?_, ?_⟩) lcL_12 dL_law_12 (cm_init E (List.mem_append_right _ List.mem_cons_self) zr_0 (zr_cl hcl1) (fun r h1 h2 z => by rw [eL] at z; simp [L7, ci] at z; omega)) rfl rfl (by decide) (Nat.le_of_ble_eq_true rfl) (by decide) (by decide) (fun a ha => ha) (fun a ha => by simp at ha; rw [ha]; exact Or.inl (List.mem_append_right _ List.mem_cons_self)) (fun a ha => by simp at ha; rcases ha with e | e; exact Or.inr e; rw [e]; exact Or.inl (List.mem_append_left _ m9)) (by rw [eL]; decide) ?_
  · obtain ⟨T0, acc2, _⟩ := h.2
    rw [acc2.1, eL]; decide
  · obtain ⟨T0, acc2, _⟩ := h.2
    exact acc2.2.2.2.2.2
  rintro L2 T2 R2 ⟨_, T0, acc2, eT⟩
  refine xa_astore_n (pc := 15) dL_law_15 (by decide) ?_
  refine xa_iconst (pc := 16) (v := 0) dL_law_16 (by decide) ?_
  refine xa_istore_n (pc := 17) dL_law_17 (by decide) ?_
  obtain ⟨g1, g2, g3, g4, g5, g6⟩ := acc2
  have eL2 : L2 = L7 ++ xm_L := by rw [g1, eL, m8_L]; simp
  have ne : ∀ a, a ∈ L7 → a ∉ m8_as ∧ a ≠ 130 ∧ a ≠ 163 := by decide
  have hT12 : ∀ a, a ∈ L7 → T2 a = T1 a := fun a ha => by
    rw [eT, fill_o (ne a ha).2.2, g2 a (ne a ha).1, zi_o (ne a ha).2.1]
  have hR12 : ∀ a, a ∈ L7 → R2 a = R1 a := fun a ha => by
    rw [g4 a (ne a ha).1 (ne a ha).2.1, zr_o (ne a ha).2.1]
  have hS0 : ∀ a, a ∈ xm_L → a ≠ 163 → ∀ y, T2 a y = 0 := fun a ha n y => by
    rw [eT, fill_o n]
    rw [m8_L] at ha
    rcases List.mem_cons.mp ha with e | e
    · subst e; rw [g2 130 (by decide)]; simp [xa_zi]
    · exact (g3 a e).1 y
  have hR0 : ∀ a, a ∈ xm_L → ∀ k, R2 a k = xm_R a k := fun a ha k => by
    rw [m8_L] at ha
    rcases List.mem_cons.mp ha with e | e
    · subst e; rw [g5]
      split
      · rfl
      · next c => exact (m8_R c).symm
    · exact (g3 a e).2 k
  have t9 : ∀ y, T1 (ci 0 129) y = 0 := fun y => by
    rw [acc.2.1 (ci 0 129) (by decide)]; simp [xa_zi]
  have r9 : ∀ y, R1 (ci 0 129) y = if y ∈ [0, 1] then cnr (ci 0 129) y else none := acc.2.2.2.2.1
  have hX : RX 0 0 0 (fun _ => 0) L7 T1 R1 T2 := RX_begin t9 (by rw [r9]; decide) (by rw [r9]; decide) (by rw [← eL]; exact hcl1) hS0 (fun y hy => by rw [eT]; exact fill_n 384 y hy)
  have hF : xm_fb T2 := fun j => ⟨Or.inl (hS0 179 (by decide) (by decide) j), Or.inl (hS0 185 (by decide) (by decide) j)⟩
  rw [eL2]
  refine xa_eqw (hi2 := jT T1 T2) (hr2 := jR R1) (fun a ha => ?_) (fun a ha k => ?_) (lw_loop E hL 0 (by decide) 0 0 (fun _ => 0) L7 T1 T2 R1 _ _ hX hF (by decide) (by decide))
  · unfold jT
    rcases List.mem_append.mp ha with e | e
    · have z := hX.c_ok a e
      rw [if_neg (by omega), hT12 a e]
    · rw [if_pos (xm_L_in e)]
  · unfold jR
    rcases List.mem_append.mp ha with e | e
    · have z := hX.c_ok a e
      rw [if_neg (by omega), hR12 a e]
    · rw [if_pos (xm_L_in e), hR0 a e k]
