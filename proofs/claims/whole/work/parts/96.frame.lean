/-! ===== two worlds side by side ===== -/
theorem va_P_app {D : va_G} {cl : List vw_C} {a b : va_W} {H : Heap} : va_P D cl (a ++ b) H ↔ va_P D cl a H ∧ va_P D cl b H := by
  constructor
  · intro h
    refine ⟨fun k q hk => h k q ?_, fun k q hk => h (a.length + k) q ?_⟩
    · rw [List.getElem?_append_left (List.getElem?_eq_some_iff.mp hk).1]; exact hk
    · rw [List.getElem?_append_right (by omega)]; rw [Nat.add_sub_cancel_left]; exact hk
  · rintro ⟨h1, h2⟩ k q hk
    by_cases c : k < a.length
    · rw [List.getElem?_append_left c] at hk; exact h1 k q hk
    · rw [List.getElem?_append_right (by omega)] at hk; exact h2 _ q hk
theorem va_D_app {A : Nat → Prop} {a b : va_W} (h : va_D A (a ++ b)) : va_D A a ∧ va_D A b ∧ ∀ q ∈ a, ∀ r ∈ b, q.1 ≠ r.1 := by
  have ga : ∀ (k : Nat) (q : Nat × va_E), a[k]? = some q → (a ++ b)[k]? = some q := fun k q hk => by
    rw [List.getElem?_append_left (List.getElem?_eq_some_iff.mp hk).1]; exact hk
  have gb : ∀ (k : Nat) (q : Nat × va_E), b[k]? = some q → (a ++ b)[a.length + k]? = some q := fun k q hk => by
    rw [List.getElem?_append_right (by omega), Nat.add_sub_cancel_left]; exact hk
  refine ⟨⟨fun i j x y h1 h2 h3 => h.1 i j x y (ga i x h1) (ga j y h2) h3, fun k q hk => h.2 k q (ga k q hk)⟩, ⟨fun i j x y h1 h2 h3 => ?_, fun k q hk => h.2 _ q (gb k q hk)⟩, fun q hq r hr e => ?_⟩
  · have := h.1 _ _ x y (gb i x h1) (gb j y h2) h3; omega
  · obtain ⟨i, hi⟩ := List.getElem?_of_mem hq
    obtain ⟨j, hj⟩ := List.getElem?_of_mem hr
    have z := h.1 i _ q r (ga i q hi) (gb j r hj) e
    have l := (List.getElem?_eq_some_iff.mp hi).1
    omega
theorem va_D_mk {A : Nat → Prop} {a b : va_W} (h1 : va_D A a) (h2 : va_D A b) (h3 : ∀ q ∈ a, ∀ r ∈ b, q.1 ≠ r.1) : va_D A (a ++ b) := by
  refine ⟨fun i j x y hx hy e => ?_, fun k q hk => ?_⟩
  · by_cases c1 : i < a.length <;> by_cases c2 : j < a.length
    · rw [List.getElem?_append_left c1] at hx; rw [List.getElem?_append_left c2] at hy
      exact h1.1 i j x y hx hy e
    · rw [List.getElem?_append_left c1] at hx; rw [List.getElem?_append_right (by omega)] at hy
      exact absurd e (h3 x (List.mem_of_getElem? hx) y (List.mem_of_getElem? hy))
    · rw [List.getElem?_append_right (by omega)] at hx; rw [List.getElem?_append_left c2] at hy
      exact absurd e.symm (h3 y (List.mem_of_getElem? hy) x (List.mem_of_getElem? hx))
    · rw [List.getElem?_append_right (by omega)] at hx; rw [List.getElem?_append_right (by omega)] at hy
      have := h2.1 _ _ x y hx hy e; omega
  · by_cases c : k < a.length
    · rw [List.getElem?_append_left c] at hk; exact h1.2 k q hk
    · rw [List.getElem?_append_right (by omega)] at hk; exact h2.2 _ q hk
theorem va_D_swap {A : Nat → Prop} {a b : va_W} (h : va_D A (a ++ b)) : va_D A (b ++ a) := by
  obtain ⟨h1, h2, h3⟩ := va_D_app h
  exact va_D_mk h2 h1 (fun q hq r hr e => h3 r hr q hq e.symm)
theorem xa_wd_app {dA : Nat → ClassId} {al : Nat → Nat} {L1 L2 : List Nat} {hi : xa_AH} {hr : xa_AR} : xa_wd dA al (L1 ++ L2) hi hr = xa_wd dA al L1 hi hr ++ xa_wd dA al L2 hi hr := by
  unfold xa_wd; rw [List.map_append]
/-- the cells of the class (T, R) and those of the reference (S) -/
def jT (T S : xa_AH) : xa_AH := fun a => if 130 ≤ a ∧ a ≤ 190 then S a else T a
def jR (R : xa_AR) : xa_AR := fun a => if 130 ≤ a ∧ a ≤ 190 then xm_R a else R a
theorem xa_en_cong {dA : Nat → ClassId} {al al2 : Nat → Nat} {hi hi2 : xa_AH} {hr hr2 : xa_AR} {a : Nat} (h1 : hi2 a = hi a) (h2 : ∀ k, (hr2 a k).map al2 = (hr a k).map al) : xa_en dA al2 hi2 hr2 a = xa_en dA al hi hr a := by
  have e : xa_sv al2 hi2 hr2 a = xa_sv al hi hr a := by funext k; simp [xa_sv, h1, h2]
  have e2 : (fun j => (hr2 a j).map al2) = (fun j => (hr a j).map al) := by funext j; exact h2 j
  simp only [xa_en, h1, e, e2]
theorem xa_wd_cong {dA : Nat → ClassId} {al al2 : Nat → Nat} {hi hi2 : xa_AH} {hr hr2 : xa_AR} {L : List Nat} (h0 : ∀ a, a ∈ L → al2 a = al a) (h1 : ∀ a, a ∈ L → hi2 a = hi a) (h2 : ∀ a, a ∈ L → ∀ k, (hr2 a k).map al2 = (hr a k).map al) : xa_wd dA al2 L hi2 hr2 = xa_wd dA al L hi hr := by
  unfold xa_wd
  refine List.map_congr_left (fun a ha => ?_)
  rw [h0 a ha, xa_en_cong (h1 a ha) (h2 a ha)]
theorem wd_cls {dA : Nat → ClassId} {al : Nat → Nat} {L : List Nat} {T S : xa_AH} {R : xa_AR} (h : ∀ a, a ∈ L → a % 256 < 130) : xa_wd dA al L (jT T S) (jR R) = xa_wd dA al L T R := by
  refine xa_wd_cong (fun a _ => rfl) (fun a ha => ?_) (fun a ha k => ?_)
  · have := h a ha; unfold jT; rw [if_neg (by omega)]
  · have := h a ha; unfold jR; rw [if_neg (by omega)]
theorem xm_L_in {a : Nat} (h : a ∈ xm_L) : 130 ≤ a ∧ a ≤ 190 := by
  revert a; decide
theorem wd_ref {dA : Nat → ClassId} {al : Nat → Nat} {T S : xa_AH} {R : xa_AR} : xa_wd dA al xm_L (jT T S) (jR R) = xa_wd dA al xm_L S xm_R := by
  refine xa_wd_cong (fun a _ => rfl) (fun a ha => ?_) (fun a ha k => ?_)
  · unfold jT; rw [if_pos (xm_L_in ha)]
  · unfold jR; rw [if_pos (xm_L_in ha)]
theorem xm_R_in {a k b : Nat} (h : xm_R a k = some b) : 130 ≤ b ∧ b < 192 := by
  unfold xm_R at h
  split at h
  · next c =>
    have e := Option.some.inj h
    have hk : k < 60 := by
      rcases Nat.lt_or_ge k 60 with g | g
      · exact g
      · have z := c.2
        unfold xa_isR at z
        have e9 : (xa_rT.getD 8 [])[k]? = none := List.getElem?_eq_none (show 60 ≤ k from g)
        rw [List.getD_eq_getElem?_getD, e9] at z
        cases z
    omega
  · cases h
/-- behind a call that had a part of the world: what isn't its own stays -/
theorem xa_afterF {p : Program} {l : Launch} {e : Env} {R : Room} {s : State} {m : MethodId} {args : Array Value} {below : List Frame} {meth : Method} {c : Code} {H : Heap} {locs : List Loc} {cells slots : Nat} {Q : State → Prop} {pc : Nat} {lm : Array Slot} {st0 rest : List Value} {mc ms : Nat} {E : xa_EV} {L : List Nat} {al : Nat → Nat} {A0 : Nat → Prop} {Post : Option Value → xa_AH → xa_AR → Prop} {a : Array Value} (hrun : va_Run p l e R s m args below meth c H locs cells slots mc ms (F0 m pc lm st0) rest (xa_Qc E al L H.size Post a) (xa_own al L H.size)) (hS : va_S A0 s.heap H locs) (hA : ∀ q, xa_own al L H.size q → A0 q)
    (kk : ∀ (r : Option Value) (hi' : xa_AH) (hr' : xa_AR) (H1 : Heap) (locs1 : List Loc), Post r hi' hr' → va_P E.2.1 xa_cl (xa_wd E.2.2 al L hi' hr') H1 → va_S A0 s.heap H1 locs1 → (∀ q, q < H.size → ¬ xa_own al L H.size q → H1[q]? = H[q]?) → W p l e R s m args below meth c H1 locs1 (cells + mc) (slots + ms) Q (F0 m (pc + 3) lm ((r.map (xa_cv al)).toList ++ rest))) : W p l e R s m args below meth c H locs cells slots Q (F0 m pc lm st0) := by
  intro T hT X
  obtain ⟨v, st₀, t, T', Ls, h0, X', hL, e1, e2, ⟨⟨r, hi', hr', hv, hp, hb⟩, hz, hk⟩, st⟩ := hrun T hT X
  cases hv
  rw [h0] at hz hk
  obtain ⟨t2, a1, b1⟩ := kk r hi' hr' T'.heap (locs ++ Ls) hp (by rw [e1]; exact hb)
    ⟨Nat.le_trans hS.1 (by rw [e1]; exact hz), fun q h1 h2 => by rw [e1, hk q (Nat.lt_of_lt_of_le h1 hS.1) (fun z => h2 (hA q z))]; exact hS.2.1 q h1 h2, fun q hq => by
      rcases List.mem_append.mp hq with h | h
      · exact hS.2.2 q h
      · exact hA _ (hL q h)⟩ (fun q h1 h2 => by rw [e1]; exact hk q h1 h2) T' rfl X'
  exact ⟨t2, st t2 a1, b1⟩
theorem xa_afterAF {p : Program} {l : Launch} {e : Env} {R : Room} {s : State} {m : MethodId} {args : Array Value} {below : List Frame} {meth : Method} {c : Code} {H : Heap} {locs : List Loc} {cells slots : Nat} {Q : State → Prop} {pc : Nat} {lm : Array Slot} {st0 rest : List Value} {mc ms : Nat} {E : xa_EV} {L : List Nat} {al : Nat → Nat} {A0 : Nat → Prop} {Post : Option Value → List Nat → xa_AH → xa_AR → Prop} {a : Array Value} (hrun : va_Run p l e R s m args below meth c H locs cells slots mc ms (F0 m pc lm st0) rest (xa_QcA E al L H.size Post a) (xa_own al L H.size)) (hS : va_S A0 s.heap H locs) (hA : ∀ q, xa_own al L H.size q → A0 q)
    (kk : ∀ (al' : Nat → Nat) (r : Option Value) (L' : List Nat) (hi' : xa_AH) (hr' : xa_AR) (H1 : Heap) (locs1 : List Loc), (∀ a, a ∈ L → al' a = al a) → Post r L' hi' hr' → va_P E.2.1 xa_cl (xa_wd E.2.2 al' L' hi' hr') H1 → va_D (xa_own al L H.size) (xa_wd E.2.2 al' L' hi' hr') → va_S A0 s.heap H1 locs1 → (∀ q, q < H.size → ¬ xa_own al L H.size q → H1[q]? = H[q]?) → W p l e R s m args below meth c H1 locs1 (cells + mc) (slots + ms) Q (F0 m (pc + 3) lm ((r.map (xa_cv al')).toList ++ rest))) : W p l e R s m args below meth c H locs cells slots Q (F0 m pc lm st0) := by
  intro T hT X
  obtain ⟨v, st₀, t, T', Ls, h0, X', hL, e1, e2, ⟨⟨al', r, L', hi', hr', hag, hv, hp, hb, hd⟩, hz, hk⟩, st⟩ := hrun T hT X
  cases hv
  rw [h0] at hz hk
  obtain ⟨t2, a1, b1⟩ := kk al' r L' hi' hr' T'.heap (locs ++ Ls) hag hp (by rw [e1]; exact hb) hd
    ⟨Nat.le_trans hS.1 (by rw [e1]; exact hz), fun q h1 h2 => by rw [e1, hk q (Nat.lt_of_lt_of_le h1 hS.1) (fun z => h2 (hA q z))]; exact hS.2.1 q h1 h2, fun q hq => by
      rcases List.mem_append.mp hq with h | h
      · exact hS.2.2 q h
      · exact hA _ (hL q h)⟩ (fun q h1 h2 => by rw [e1]; exact hk q h1 h2) T' rfl X'
  exact ⟨t2, st t2 a1, b1⟩
theorem wd_mem {dA : Nat → ClassId} {al : Nat → Nat} {L : List Nat} {hi : xa_AH} {hr : xa_AR} {q : Nat × va_E} (h : q ∈ xa_wd dA al L hi hr) : ∃ a, a ∈ L ∧ q.1 = al a := by
  unfold xa_wd at h
  obtain ⟨a, ha, e⟩ := List.mem_map.mp h
  exact ⟨a, ha, by rw [← e]⟩
theorem wd_in {dA : Nat → ClassId} {al : Nat → Nat} {L : List Nat} {hi : xa_AH} {hr : xa_AR} {a : Nat} (h : a ∈ L) : (al a, xa_en dA al hi hr a) ∈ xa_wd dA al L hi hr := List.mem_map.mpr ⟨a, h, rfl⟩
/-- the other part of the world is as it was -/
theorem va_P_rest {D : va_G} {cl : List vw_C} {A : Nat → Prop} {dA : Nat → ClassId} {al : Nat → Nat} {L1 L2 : List Nat} {hi : xa_AH} {hr : xa_AR} {H H1 : Heap} (hP : va_P D cl (xa_wd dA al L2 hi hr) H) (hx : ∀ q ∈ xa_wd dA al L1 hi hr, ∀ r ∈ xa_wd dA al L2 hi hr, q.1 ≠ r.1) (hk : ∀ q, q < H.size → ¬ xa_own al L1 H.size q → H1[q]? = H[q]?) : va_P D cl (xa_wd dA al L2 hi hr) H1 := by
  refine hP.kept (fun k q hq => hk _ (hP k q hq).lt (fun z => ?_))
  rcases z with ⟨a, ha, e⟩ | z
  · exact hx _ (wd_in ha) q (List.mem_of_getElem? hq) e.symm
  · exact absurd (hP k q hq).lt (by omega)
