def bs_as (h : Nat) : List Nat := [ci h 32, ci h 35, ci h 36, ci h 37, ci h 39, ci h 40, ci h 42, ci h 44, ci h 45, ci h 46, ci h 47, ci h 48, ci h 51, ci h 52, ci h 53, ci h 55, ci h 56, ci h 58, ci h 60, ci h 61, ci h 62, ci h 63, ci h 64, ci h 67, ci h 68, ci h 69, ci h 71, ci h 72, ci h 74, ci h 76, ci h 77, ci h 78, ci h 79]
theorem bs_far {h a : Nat} (f : a / 256 ≠ h ∨ a % 256 < 32 ∨ 81 ≤ a % 256) : a ∉ bs_as h ∧ a ≠ ci h 80 := by
  constructor
  · intro z
    simp only [bs_as, List.mem_cons, List.not_mem_nil, or_false] at z
    unfold ci at z
    omega
  · unfold ci; omega
theorem bs_80 {h : Nat} : ci h 80 ∉ bs_as h := by simp [bs_as, ci]
def xm_bgS (S : xa_AH) (h : Nat) (net kd : Int32) : xa_AH := xa_up (xa_up (xa_up S 139 h 1) 132 h net) 140 h kd
theorem bg_a {S : xa_AH} {h a : Nat} {net kd : Int32} (g : a ≠ 132 ∧ a ≠ 139 ∧ a ≠ 140) : xm_bgS S h net kd a = S a := by
  unfold xm_bgS; rw [up_o (by omega), up_o (by omega), up_o (by omega)]
theorem bg_x {S : xa_AH} {h a x : Nat} {net kd : Int32} (g : x ≠ h) : xm_bgS S h net kd a x = S a x := by
  unfold xm_bgS; rw [up_k g, up_k g, up_k g]
theorem bg_n {S : xa_AH} {h : Nat} {net kd : Int32} : xm_bgS S h net kd 139 h = 1 ∧ xm_bgS S h net kd 132 h = net ∧ xm_bgS S h net kd 140 h = kd := by
  simp [xm_bgS, xa_up]
theorem bg_emp {S : xa_AH} {h : Nat} {net kd : Int32} : xm_brS S h net kd = xm_bgS (xm_emp h S) h net kd := by
  funext x y
  unfold xm_brS xm_bgS
  rw [emp_e]
  unfold xa_up
  rw [emp_e]
  by_cases e1 : x = 140 ∧ y = h
  · rw [if_neg (by omega), if_neg (by omega), if_pos e1, if_pos e1]
  · by_cases e2 : x = 132 ∧ y = h
    · rw [if_neg (by omega), if_neg (by omega), if_neg e1, if_pos e2, if_neg e1, if_pos e2]
    · by_cases e3 : x = 139 ∧ y = h
      · rw [if_neg (by omega), if_neg (by omega), if_neg e1, if_neg e2, if_pos e3, if_neg e1, if_neg e2, if_pos e3]
      · rw [if_neg e1, if_neg e2, if_neg e3, if_neg e1, if_neg e2, if_neg e3]
set_option maxHeartbeats 1000000 in
theorem RX_brdg {nh ns : Nat} {pw : Nat → Nat} {L : List Nat} {T : xa_AH} {R : xa_AR} {S : xa_AH} (hX : RX nh ns 0 pw L T R S) {h : Nat} (hh : h < nh) (h9 : S 139 h = 0) {net kd : Int32} (k1 : vp_in net 4) {L1 : List Nat} {T1 : xa_AH} {R1 : xa_AR} (acc : ACC cnr (bs_as h) [2, 3, 4] (ci h 80) (L ++ [ci h 80]) (xa_up (xa_up (xa_zi T (ci h 80)) (ci h 80) 1 net) (ci h 80) 0 kd) (xa_zr R (ci h 80)) L1 T1 R1) : RX nh ns 0 pw L1 T1 (xa_upr R1 (ci h 0) 11 (some (ci h 80))) (xm_bgS S h net kd) := by
  obtain ⟨g1, g2, g3, g4, g5, g6⟩ := acc
  have n12 := hX.n12
  have mem : ∀ a, a ∈ L1 ↔ a ∈ L ∨ a = ci h 80 ∨ a ∈ bs_as h := fun a => by rw [g1]; simp [or_assoc]
  have tT : ∀ a, (a / 256 ≠ h ∨ a % 256 < 32 ∨ 81 ≤ a % 256) → T1 a = T a := fun a f => by
    have z := bs_far f
    rw [g2 a z.1, up_o z.2, up_o z.2, zi_o z.2]
  have tR : ∀ a y, (a / 256 ≠ h ∨ a % 256 < 32 ∨ 81 ≤ a % 256) → (a ≠ ci h 0 ∨ y ≠ 11) → (xa_upr R1 (ci h 0) 11 (some (ci h 80))) a y = R a y := fun a y f e => by
    have z := bs_far f
    rw [upr_o (by omega), g4 a z.1 z.2, zr_o z.2]
  have e80 : ci h 80 ≠ ci h 0 := ci_ne (by decide) (by decide) (by decide)
  have nT : ∀ y, T1 (ci h 80) y = (xa_up (xa_up (xa_zi T (ci h 80)) (ci h 80) 1 net) (ci h 80) 0 kd) (ci h 80) y := fun y => by rw [g2 _ bs_80]
  have nR : ∀ y, (xa_upr R1 (ci h 0) 11 (some (ci h 80))) (ci h 80) y = if y ∈ [2, 3, 4] then cnr (ci h 80) y else none := fun y => by rw [upr_o (Or.inr e80), g5]
  have aT : ∀ r y, ci h r ∈ bs_as h → T1 (ci h r) y = 0 := fun r y m => (g3 _ m).1 y
  have aR : ∀ r y, ci h r ∈ bs_as h → 0 < r → r < 126 → (xa_upr R1 (ci h 0) 11 (some (ci h 80))) (ci h r) y = cnr (ci h r) y := fun r y m hr h2 => by
    rw [upr_o (Or.inr (ci_ne (by omega) (by decide) (by omega)))]; exact (g3 _ m).2 y
  have oR : ∀ x r y, x ≠ h → r < 126 → (xa_upr R1 (ci h 0) 11 (some (ci h 80))) (ci x r) y = R (ci x r) y := fun x r y hx hr => tR _ _ (Or.inl (by rw [ci_d (by omega)]; exact hx)) (Or.inl (fun c => by have := ((ci_inj (by omega) (by decide)).mp c).1; exact hx this))
  have oT : ∀ x r, x ≠ h → r < 126 → T1 (ci x r) = T (ci x r) := fun x r hx hr => tT _ (Or.inl (by rw [ci_d (by omega)]; exact hx))
  have hT : ∀ x r, r < 32 → T1 (ci x r) = T (ci x r) := fun x r hr => tT _ (Or.inr (Or.inl (by rw [ci_m (by omega)]; exact hr)))
  have hR : ∀ x r y, r < 32 → (r ≠ 0 ∨ y ≠ 11) → (xa_upr R1 (ci h 0) 11 (some (ci h 80))) (ci x r) y = R (ci x r) y := fun x r y hr e => tR _ _ (Or.inr (Or.inl (by rw [ci_m (by omega)]; exact hr))) (by
    rcases e with e | e
    · exact Or.inl (ci_ne (by omega) (by decide) e)
    · exact Or.inr e)
  have lte : ∀ x, x ≠ h → lt (xa_upr R1 (ci h 0) 11 (some (ci h 80))) x = lt R x ∧ l2 (xa_upr R1 (ci h 0) 11 (some (ci h 80))) x = l2 R x ∧ wh (xa_upr R1 (ci h 0) 11 (some (ci h 80))) x = wh R x ∧ w2 (xa_upr R1 (ci h 0) 11 (some (ci h 80))) x = w2 R x := fun x hx => by
    unfold lt l2 wh w2
    rw [oR x 0 _ hx (by decide), oR x 80 _ hx (by decide), oR x 80 _ hx (by decide), oR x 80 _ hx (by decide)]; exact ⟨rfl, rfl, rfl, rfl⟩
  have lth : lt (xa_upr R1 (ci h 0) 11 (some (ci h 80))) h = ci h 16 := by
    have z := hX.l_l1 hh h9
    unfold lt at z ⊢
    rw [hR h 0 15 (by decide) (Or.inr (by decide))]; exact z
  have l2h : l2 (xa_upr R1 (ci h 0) 11 (some (ci h 80))) h = ci h 32 := by unfold l2; rw [nR, cnr_ci (by decide)]; rfl
  have whh : wh (xa_upr R1 (ci h 0) 11 (some (ci h 80))) h = ci h 48 := by unfold wh; rw [nR, cnr_ci (by decide)]; rfl
  have w2h : w2 (xa_upr R1 (ci h 0) 11 (some (ci h 80))) h = ci h 64 := by unfold w2; rw [nR, cnr_ci (by decide)]; rfl
  have csl : ∀ x q, lat x q → (x ≠ h ∨ q = ci h 16) → cs_l L R q → cs_l L1 (xa_upr R1 (ci h 0) 11 (some (ci h 80))) q := fun x q hl hx g => by
    refine ⟨(mem _).mpr (Or.inl g.1), g.2.1, fun f hf => ?_⟩
    have z := g.2.2 f hf
    have d0 : q / 256 = x := lat_d (d := 0) hl (by decide)
    refine ⟨?_, (mem _).mpr (Or.inl z.2.1), z.2.2⟩
    rw [tR q f.1 (by
      rcases hx with c | c
      · exact Or.inl (by rw [d0]; exact c)
      · rw [c]; exact Or.inr (Or.inl (by rw [ci_m (by decide)]; decide))) (Or.inl (fun c => by have := (lat_lc hl).1.1; rw [c, ci_m (by decide)] at this; omega))]
    exact z.1
  have csn : ∀ b, b = 32 ∨ b = 48 ∨ b = 64 → cs_l L1 (xa_upr R1 (ci h 0) 11 (some (ci h 80))) (ci h b) := fun b hb => by
    rcases hb with c | c | c <;> subst c
    all_goals
      refine ⟨(mem _).mpr (by simp [bs_as]), ci_kd _ _ (by decide), fun f hf => ?_⟩
      simp only [cl_tab, List.mem_cons, List.not_mem_nil, or_false] at hf
      rcases hf with c | c | c | c | c | c | c | c | c | c <;> (subst c; refine ⟨by rw [aR _ _ (by simp [bs_as]) (by decide) (by decide), cnr_ci (by decide)]; rfl, (mem _).mpr (by rw [ci_p]; simp [bs_as]), by rw [ci_p]; exact ci_kd _ _ (by decide), by rw [ci_p]; exact ci_ln _ _ (by decide)⟩)
  have rws : ∀ r, rowsame S (xm_bgS S h net kd) r := fun r => ⟨fun a b1 b2 k hk => by rw [bg_a (by omega)], fun a b1 s hs => by rw [bg_a (by omega)]⟩
  have lrc : ∀ x q r nb, x ≠ h → lat x q → lr T q S r nb → lr T1 q (xm_bgS S h net kd) r nb := fun x q r nb hx hl g => lr_row (rws r) (lr_cell (T := T) (fun d hd => tT _ (Or.inl (by rw [lat_d hl hd]; exact hx))) g)
  obtain ⟨i0h, i0r, i0a, i0w, i0s⟩ := hX.iv_0
  have bn := bg_n (S := S) (h := h) (net := net) (kd := kd)
  refine ⟨?_, ?_, ?_, ?_, ?_, ?_, ?_, ?_, ?_, fun i hi => absurd hi (Nat.not_lt_zero i), ?_, ?_, ?_, ?_, ?_, ?_, ⟨Nat.zero_le _, hX.k_p0⟩, ?_⟩
  · -- rx_c
    refine ⟨(mem _).mpr (Or.inl hX.c_m129), (mem _).mpr (Or.inl hX.c_m126), (mem _).mpr (Or.inl hX.c_m127), ?_, ?_, fun x hx => ⟨⟨fun r hr => (mem _).mpr (Or.inl ((hX.hS hx).1 r hr)), fun q hq => ?_⟩, ?_⟩, fun s hs => ⟨(mem _).mpr (Or.inl (hX.sM hs)), ?_⟩, fun a y b g => ?_, fun x r hx hr z => ?_, fun s hs z => ?_, fun a ha => ?_⟩
    · rw [tR _ _ (Or.inr (Or.inr (by decide))) (Or.inl (ci_ne (by decide) (by decide) (by decide)))]; exact hX.c_r0
    · rw [tR _ _ (Or.inr (Or.inr (by decide))) (Or.inl (ci_ne (by decide) (by decide) (by decide)))]; exact hX.c_r1
    · have n : q.1 < 32 ∧ q.2.1 ≠ 11 := (by decide : ∀ q ∈ cs_tab, q.1 < 32 ∧ q.2.1 ≠ 11) q hq
      rw [hR x _ _ n.1 (Or.inr n.2)]; exact (hX.hS hx).2 q hq
    · rw [tR _ _ (Or.inr (Or.inr (by decide))) (Or.inl (ci_ne (by decide) (by decide) (by decide)))]; exact hX.hA hx
    · rw [tR _ _ (Or.inr (Or.inr (by decide))) (Or.inl (ci_ne (by decide) (by decide) (by decide)))]; exact hX.sA hs
    · unfold xa_upr at g
      split at g
      · rw [← Option.some.inj g]; exact (mem _).mpr (Or.inr (Or.inl rfl))
      · exact g6 a y b g
    · rcases (mem _).mp z with c | c | c
      · exact hX.c_nh x r hx hr c
      · have := ((ci_inj (by omega) (by decide)).mp c).1; omega
      · exact (bs_far (h := h) (a := ci x r) (Or.inl (by rw [ci_d (by omega)]; omega))).1 c
    · rcases (mem _).mp z with c | c | c
      · exact hX.c_ns s hs c
      · exact absurd c (ci_ne (by decide) (by decide) (by decide))
      · exact (bs_far (h := h) (a := ci s 128) (Or.inr (Or.inr (by rw [ci_m (by decide)]; decide)))).1 c
    · rcases (mem _).mp ha with c | c | c
      · exact hX.c_ok a c
      · subst c; rw [ci_m (by decide)]; decide
      · simp only [bs_as, List.mem_cons, List.not_mem_nil, or_false] at c
        unfold ci at c; omega
  · -- rx_l
    intro x hx
    by_cases e : x = h
    · subst e
      rw [lth, l2h, whh, w2h, bn.1]
      have q := hX.rx_l x hx
      have qe := hX.l_l1 hh h9
      refine ⟨?_, csl x _ (Or.inl rfl) (Or.inr rfl) (by rw [← qe]; exact q.2.1), Or.inl rfl, fun c => absurd c (by decide), fun _ => ⟨(mem _).mpr (Or.inr (Or.inl rfl)), ?_, ?_, ?_, csn 32 (by decide), csn 48 (by decide), csn 64 (by decide), Or.inl ⟨rfl, rfl⟩, Or.inl ⟨rfl, rfl⟩⟩, fun c => absurd c (by decide)⟩
      · rw [hR x 0 15 (by decide) (Or.inr (by decide)), ← qe]; exact q.1
      · rw [nR, cnr_ci (by decide)]; rfl
      · rw [nR, cnr_ci (by decide)]; rfl
      · rw [nR, cnr_ci (by decide)]; rfl
    · have q := hX.rx_l x hx
      have l := lte x e
      rw [l.1, l.2.1, l.2.2.1, l.2.2.2, bg_x e, oR x 0 _ e (by decide), oR x 80 _ e (by decide), oR x 80 _ e (by decide), oR x 80 _ e (by decide)]
      refine ⟨q.1, csl x _ (lat_lt hX hx) (Or.inl e) q.2.1, q.2.2.1, q.2.2.2.1, fun g => ?_, fun g r r1 r2 z => ?_⟩
      · have w := q.2.2.2.2.1 g
        have lb := lat_b hX hx g
        exact ⟨(mem _).mpr (Or.inl w.1), w.2.1, w.2.2.1, w.2.2.2.1, csl x _ lb.1 (Or.inl e) w.2.2.2.2.1, csl x _ lb.2.1 (Or.inl e) w.2.2.2.2.2.1, csl x _ lb.2.2 (Or.inl e) w.2.2.2.2.2.2.1, w.2.2.2.2.2.2.2⟩
      · rcases (mem _).mp z with c | c | c
        · exact q.2.2.2.2.2 g r r1 r2 c
        · exact e ((ci_inj (by omega) (by decide)).mp c).1
        · exact (bs_far (h := h) (a := ci x r) (Or.inl (by rw [ci_d (by omega)]; exact e))).1 c
  · -- rx_g
    have q := hX.rx_g
    unfold rx_g
    rw [bg_a (a := 130) (by decide), tT (ci 0 129) (Or.inr (Or.inr (by decide)))]
    exact q
  · -- rx_h
    intro x hx
    have q := hX.rx_h x hx
    by_cases e : x = h
    · subst e
      rw [hT x 0 (by decide), hR x 0 10 (by decide) (Or.inr (by decide)), bn.1, bn.2.1, bn.2.2, upr_s]
      simp only [xs, bg_a (S := S) (a := 131) (net := net) (kd := kd) (by decide), bg_a (S := S) (a := 133) (net := net) (kd := kd) (by decide), bg_a (S := S) (a := 134) (net := net) (kd := kd) (by decide), bg_a (S := S) (a := 135) (net := net) (kd := kd) (by decide), bg_a (S := S) (a := 136) (net := net) (kd := kd) (by decide), bg_a (S := S) (a := 137) (net := net) (kd := kd) (by decide), bg_a (S := S) (a := 138) (net := net) (kd := kd) (by decide), bg_a (S := S) (a := 141) (net := net) (kd := kd) (by decide), bg_a (S := S) (a := 142) (net := net) (kd := kd) (by decide), bg_a (S := S) (a := 143) (net := net) (kd := kd) (by decide), bg_a (S := S) (a := 144) (net := net) (kd := kd) (by decide)] at q ⊢
      exact ⟨q.1, q.2.1, q.2.2.1, q.2.2.2.1, q.2.2.2.2.1, q.2.2.2.2.2.1, q.2.2.2.2.2.2.1, q.2.2.2.2.2.2.2.1, q.2.2.2.2.2.2.2.2.1, q.2.2.2.2.2.2.2.2.2.1, fun c => absurd c (by decide), fun _ => by first | rfl | trivial, fun _ => by rw [nT]; simp [xa_up], fun _ => by rw [nT]; simp [xa_up], q.2.2.2.2.2.2.2.2.2.2.2.2.2.2.1, q.2.2.2.2.2.2.2.2.2.2.2.2.2.2.2⟩
    · rw [oT x 0 e (by decide), oT x 80 e (by decide), oR x 0 10 e (by decide), oR x 0 11 e (by decide)]
      simp only [xs, bg_a (S := S) (a := 131) (net := net) (kd := kd) (by decide), bg_a (S := S) (a := 133) (net := net) (kd := kd) (by decide), bg_a (S := S) (a := 134) (net := net) (kd := kd) (by decide), bg_a (S := S) (a := 135) (net := net) (kd := kd) (by decide), bg_a (S := S) (a := 136) (net := net) (kd := kd) (by decide), bg_a (S := S) (a := 137) (net := net) (kd := kd) (by decide), bg_a (S := S) (a := 138) (net := net) (kd := kd) (by decide), bg_a (S := S) (a := 141) (net := net) (kd := kd) (by decide), bg_a (S := S) (a := 142) (net := net) (kd := kd) (by decide), bg_a (S := S) (a := 143) (net := net) (kd := kd) (by decide), bg_a (S := S) (a := 144) (net := net) (kd := kd) (by decide), bg_x (S := S) (a := 132) (h := h) (net := net) (kd := kd) e, bg_x (S := S) (a := 139) (h := h) (net := net) (kd := kd) e, bg_x (S := S) (a := 140) (h := h) (net := net) (kd := kd) e] at q ⊢
      exact q
  · -- rx_s
    intro s hs
    have q := hX.rx_s s hs
    rw [tT (ci s 128) (Or.inr (Or.inr (by rw [ci_m (by decide)]; decide))), tR (ci s 128) _ (Or.inr (Or.inr (by rw [ci_m (by decide)]; decide))) (Or.inl (ci_ne (by decide) (by decide) (by decide)))]
    simp only [bg_a (S := S) (a := 146) (net := net) (kd := kd) (by decide), bg_a (S := S) (a := 147) (net := net) (kd := kd) (by decide), bg_a (S := S) (a := 148) (net := net) (kd := kd) (by decide), bg_a (S := S) (a := 149) (net := net) (kd := kd) (by decide), bg_a (S := S) (a := 150) (net := net) (kd := kd) (by decide), bg_a (S := S) (a := 151) (net := net) (kd := kd) (by decide), bg_a (S := S) (a := 152) (net := net) (kd := kd) (by decide), bg_a (S := S) (a := 153) (net := net) (kd := kd) (by decide), bg_a (S := S) (a := 154) (net := net) (kd := kd) (by decide), bg_a (S := S) (a := 155) (net := net) (kd := kd) (by decide), bg_a (S := S) (a := 156) (net := net) (kd := kd) (by decide)]
    exact q
  · intro x hx s hs
    simp only [bg_a (S := S) (a := 158) (net := net) (kd := kd) (by decide), bg_a (S := S) (a := 159) (net := net) (kd := kd) (by decide), bg_a (S := S) (a := 160) (net := net) (kd := kd) (by decide), bg_a (S := S) (a := 161) (net := net) (kd := kd) (by decide), bg_a (S := S) (a := 162) (net := net) (kd := kd) (by decide), bg_a (S := S) (a := 163) (net := net) (kd := kd) (by decide)]
    rw [hT x 1 (by decide), hT x 2 (by decide), hT x 3 (by decide), hT x 4 (by decide), hT x 5 (by decide), hT x 9 (by decide), hT x 10 (by decide)]
    exact hX.rx_r x hx s hs
  · intro x hx y hy
    simp only [bg_a (S := S) (a := 164) (net := net) (kd := kd) (by decide), bg_a (S := S) (a := 165) (net := net) (kd := kd) (by decide), bg_a (S := S) (a := 166) (net := net) (kd := kd) (by decide)]
    rw [hT x 6 (by decide), hT x 7 (by decide), hT x 8 (by decide)]
    exact hX.rx_a x hx y hy
  · intro x hx y hy
    rw [hT x 6 (by decide)]; exact hX.rx_b x hx y hy
  · -- rx_w
    intro x hx
    have q := hX.rx_w x hx
    by_cases e : x = h
    · subst e
      rw [whh, w2h, bn.1]
      have c := q.1 h9
      refine ⟨fun z => absurd z (by decide), fun _ _ => ⟨lr_empty ?_ ?_ ?_ ?_ (rowc_row (rws _) c.1), lr_empty ?_ ?_ ?_ ?_ (rowc_row (rws _) c.2)⟩⟩ <;> exact aT _ _ (by simp [bs_as])
    · have l := lte x e
      rw [l.2.2.1, l.2.2.2, bg_x e, bg_x e]
      exact ⟨fun g => ⟨rowc_row (rws _) (q.1 g).1, rowc_row (rws _) (q.1 g).2⟩, fun c1 c2 => ⟨lrc x _ _ _ e (lat_b hX hx c1).2.1 (q.2 c1 c2).1, lrc x _ _ _ e (lat_b hX hx c1).2.2 (q.2 c1 c2).2⟩⟩
  · rw [xm_wf_C (fun a ha => bg_a (by omega))]; exact hX.xm_wf
  · -- iv_h
    intro x hx
    have q := hX.iv_h x hx
    by_cases e : x = h
    · subst e
      rw [bn.1, bn.2.1]
      simp only [bg_a (S := S) (a := 131) (net := net) (kd := kd) (by decide), bg_a (S := S) (a := 133) (net := net) (kd := kd) (by decide), bg_a (S := S) (a := 134) (net := net) (kd := kd) (by decide), bg_a (S := S) (a := 135) (net := net) (kd := kd) (by decide), bg_a (S := S) (a := 136) (net := net) (kd := kd) (by decide), bg_a (S := S) (a := 137) (net := net) (kd := kd) (by decide), bg_a (S := S) (a := 138) (net := net) (kd := kd) (by decide), bg_a (S := S) (a := 141) (net := net) (kd := kd) (by decide), bg_a (S := S) (a := 142) (net := net) (kd := kd) (by decide), bg_a (S := S) (a := 143) (net := net) (kd := kd) (by decide), bg_a (S := S) (a := 144) (net := net) (kd := kd) (by decide)]
      exact ⟨q.1, q.2.1, q.2.2.1, fun c => absurd c (by decide), fun _ => k1, q.2.2.2.2.2.1, q.2.2.2.2.2.2.1, Or.inr (by first | rfl | trivial), q.2.2.2.2.2.2.2.2⟩
    · simp only [bg_a (S := S) (a := 131) (net := net) (kd := kd) (by decide), bg_a (S := S) (a := 133) (net := net) (kd := kd) (by decide), bg_a (S := S) (a := 134) (net := net) (kd := kd) (by decide), bg_a (S := S) (a := 135) (net := net) (kd := kd) (by decide), bg_a (S := S) (a := 136) (net := net) (kd := kd) (by decide), bg_a (S := S) (a := 137) (net := net) (kd := kd) (by decide), bg_a (S := S) (a := 138) (net := net) (kd := kd) (by decide), bg_a (S := S) (a := 141) (net := net) (kd := kd) (by decide), bg_a (S := S) (a := 142) (net := net) (kd := kd) (by decide), bg_a (S := S) (a := 143) (net := net) (kd := kd) (by decide), bg_a (S := S) (a := 144) (net := net) (kd := kd) (by decide), bg_x (S := S) (a := 132) (h := h) (net := net) (kd := kd) e, bg_x (S := S) (a := 139) (h := h) (net := net) (kd := kd) e, bg_x (S := S) (a := 140) (h := h) (net := net) (kd := kd) e]
      exact q
  · rw [iv_s_C (fun a ha => bg_a (by omega))]; exact hX.iv_s
  · rw [iv_r_C (fun a ha => bg_a (by omega))]; exact hX.iv_r
  · -- iv_0
    refine ⟨fun x a b => ?_, ?_, ?_, fun x a b => ⟨rowc_row (rws _) (i0w x a b).1, rowc_row (rws _) (i0w x a b).2⟩, ?_⟩
    · rw [bg_x (a := 139) (by omega)]
      simp only [bg_a (S := S) (a := 131) (net := net) (kd := kd) (by decide), bg_a (S := S) (a := 133) (net := net) (kd := kd) (by decide), bg_a (S := S) (a := 134) (net := net) (kd := kd) (by decide), bg_a (S := S) (a := 135) (net := net) (kd := kd) (by decide), bg_a (S := S) (a := 136) (net := net) (kd := kd) (by decide), bg_a (S := S) (a := 137) (net := net) (kd := kd) (by decide), bg_a (S := S) (a := 138) (net := net) (kd := kd) (by decide), bg_a (S := S) (a := 141) (net := net) (kd := kd) (by decide), bg_a (S := S) (a := 142) (net := net) (kd := kd) (by decide), bg_a (S := S) (a := 143) (net := net) (kd := kd) (by decide), bg_a (S := S) (a := 144) (net := net) (kd := kd) (by decide)]
      exact i0h x a b
    · simp only [bg_a (S := S) (a := 158) (net := net) (kd := kd) (by decide), bg_a (S := S) (a := 159) (net := net) (kd := kd) (by decide), bg_a (S := S) (a := 160) (net := net) (kd := kd) (by decide), bg_a (S := S) (a := 161) (net := net) (kd := kd) (by decide), bg_a (S := S) (a := 162) (net := net) (kd := kd) (by decide), bg_a (S := S) (a := 163) (net := net) (kd := kd) (by decide)]; exact i0r
    · simp only [bg_a (S := S) (a := 164) (net := net) (kd := kd) (by decide), bg_a (S := S) (a := 165) (net := net) (kd := kd) (by decide), bg_a (S := S) (a := 166) (net := net) (kd := kd) (by decide)]; exact i0a
    · simp only [bg_a (S := S) (a := 146) (net := net) (kd := kd) (by decide), bg_a (S := S) (a := 147) (net := net) (kd := kd) (by decide), bg_a (S := S) (a := 148) (net := net) (kd := kd) (by decide), bg_a (S := S) (a := 149) (net := net) (kd := kd) (by decide), bg_a (S := S) (a := 150) (net := net) (kd := kd) (by decide), bg_a (S := S) (a := 151) (net := net) (kd := kd) (by decide), bg_a (S := S) (a := 152) (net := net) (kd := kd) (by decide), bg_a (S := S) (a := 153) (net := net) (kd := kd) (by decide), bg_a (S := S) (a := 154) (net := net) (kd := kd) (by decide), bg_a (S := S) (a := 155) (net := net) (kd := kd) (by decide), bg_a (S := S) (a := 156) (net := net) (kd := kd) (by decide)]; exact i0s
  · rw [iv_g_C (fun a ha => bg_a (by omega))]; exact hX.iv_g
  · rw [iv_e_C (fun a ha => bg_a (by omega))]; exact hX.iv_e
