def hs_as (h : Nat) : List Nat := [ci h 1, ci h 2, ci h 3, ci h 4, ci h 5, ci h 6, ci h 7, ci h 8, ci h 9, ci h 10, ci h 16, ci h 19, ci h 20, ci h 21, ci h 23, ci h 24, ci h 26, ci h 28, ci h 29, ci h 30, ci h 31]
theorem vp_mono {x : Int32} {n m : Nat} (h : vp_in x n) (hm : n ≤ m) : vp_in x m := vp_in_iff.mpr ⟨(vp_in_iff.mp h).1, by have := (vp_in_iff.mp h).2; omega⟩
theorem hs_far {h a : Nat} (f : a / 256 ≠ h ∨ 32 ≤ a % 256) : a ∉ hs_as h ∧ a ≠ ci h 0 := by
  constructor
  · intro z
    simp only [hs_as, List.mem_cons, List.not_mem_nil, or_false] at z
    unfold ci at z
    omega
  · unfold ci; omega
theorem hs_0 {h : Nat} : ci h 0 ∉ hs_as h := by simp [hs_as, ci]
theorem ci_p {h r d : Nat} : ci h r + d = ci h (r + d) := by unfold ci; omega
theorem ci_d {h r : Nat} (hr : r < 256) : ci h r / 256 = h := by unfold ci; omega
theorem ci_m {h r : Nat} (hr : r < 256) : ci h r % 256 = r := by unfold ci; omega
theorem lat_d {h q d : Nat} (g : lat h q) (hd : d < 16) : (q + d) / 256 = h := by
  unfold lat at g
  rcases g with e | e | e | e <;> (subst e; unfold ci; omega)
def xm_hoS (S : xa_AH) (nh : Nat) (net lo hg rk : Int32) : xa_AH := (xa_up (xa_up (xa_up (xa_up (xa_up (xa_up (xa_up (xa_up S 131 nh net) 132 nh (-1)) 133 nh lo) 134 nh hg) 135 nh rk) 136 nh 2) 141 nh (-1)) 130 14 (S 130 14 + 1))
theorem ho_a {S : xa_AH} {nh a : Nat} {net lo hg rk : Int32} (h : a ≠ 130 ∧ a ≠ 131 ∧ a ≠ 132 ∧ a ≠ 133 ∧ a ≠ 134 ∧ a ≠ 135 ∧ a ≠ 136 ∧ a ≠ 141) : xm_hoS S nh net lo hg rk a = S a := by
  unfold xm_hoS; rw [up_o (by omega), up_o (by omega), up_o (by omega), up_o (by omega), up_o (by omega), up_o (by omega), up_o (by omega), up_o (by omega)]
theorem ho_x {S : xa_AH} {nh a x : Nat} {net lo hg rk : Int32} (h : a ≠ 130) (hx : x ≠ nh) : xm_hoS S nh net lo hg rk a x = S a x := by
  unfold xm_hoS; rw [up_o h, up_k hx, up_k hx, up_k hx, up_k hx, up_k hx, up_k hx, up_k hx]
theorem ho_g {S : xa_AH} {nh j : Nat} {net lo hg rk : Int32} (h : j ≠ 14) : xm_hoS S nh net lo hg rk 130 j = S 130 j := by
  unfold xm_hoS; rw [up_k h, up_o (by decide), up_o (by decide), up_o (by decide), up_o (by decide), up_o (by decide), up_o (by decide), up_o (by decide)]
def hoT (T : xa_AH) (nh : Nat) (net lo hg rk : Int32) : xa_AH := (xa_up (xa_up (xa_up (xa_up (xa_up (xa_up (xa_zi T (ci nh 0)) (ci nh 0) 8 2) (ci nh 0) 0 (nI nh)) (ci nh 0) 7 net) (ci nh 0) 1 lo) (ci nh 0) 2 hg) (ci nh 0) 3 rk)
set_option maxHeartbeats 1000000 in
theorem RX_host {nh ns : Nat} {pw : Nat → Nat} {L : List Nat} {T : xa_AH} {R : xa_AR} {S : xa_AH} (hX : RX nh ns 0 pw L T R S) (hn : nh < 12) {net lo hg rk : Int32} (h1 : xm_in net 0 3 = true) (h2 : xm_in lo 1 250 = true) (h3 : xm_in hg lo 250 = true) {L1 : List Nat} {T1 : xa_AH} {R1 : xa_AR} (acc : ACC cnr (hs_as nh) [4, 5, 6, 15] (ci nh 0) (L ++ [ci nh 0]) (hoT T nh net lo hg rk) (xa_zr R (ci nh 0)) L1 T1 R1) : RX (nh + 1) ns 0 pw L1 (xa_up T1 (ci 0 129) 2 (nI nh + 1)) (xa_upr R1 (ci 0 126) nh (some (ci nh 0))) (xm_hoS S nh net lo hg rk) := by
  obtain ⟨g1, g2, g3, g4, g5, g6⟩ := acc
  have n32 := hX.n32
  have mem : ∀ a, a ∈ L1 ↔ a ∈ L ∨ a = ci nh 0 ∨ a ∈ hs_as nh := fun a => by rw [g1]; simp [or_assoc]
  have tT : ∀ a, (a / 256 ≠ nh ∨ 32 ≤ a % 256) → a ≠ ci 0 129 → xa_up T1 (ci 0 129) 2 (nI nh + 1) a = T a := fun a f e => by
    have z := hs_far f
    rw [up_o e, g2 a z.1]
    unfold hoT
    rw [up_o z.2, up_o z.2, up_o z.2, up_o z.2, up_o z.2, up_o z.2]
    funext y; simp [xa_zi, z.2]
  have tR : ∀ a, (a / 256 ≠ nh ∨ 32 ≤ a % 256) → a ≠ ci 0 126 → xa_upr R1 (ci 0 126) nh (some (ci nh 0)) a = R a := fun a f e => by
    have z := hs_far f
    funext y
    rw [upr_o (Or.inr e), g4 a z.1 z.2]
    simp [xa_zr, z.2]
  have e129 : ci nh 0 ≠ ci 0 129 := ci_ne (by decide) (by decide) (by decide)
  have e126 : ci nh 0 ≠ ci 0 126 := ci_ne (by decide) (by decide) (by decide)
  have nT : ∀ y, xa_up T1 (ci 0 129) 2 (nI nh + 1) (ci nh 0) y = hoT T nh net lo hg rk (ci nh 0) y := fun y => by rw [up_o e129, g2 _ hs_0]
  have nR : ∀ y, xa_upr R1 (ci 0 126) nh (some (ci nh 0)) (ci nh 0) y = if y ∈ [4, 5, 6, 15] then cnr (ci nh 0) y else none := fun y => by rw [upr_o (Or.inr e126), g5]
  have aT : ∀ r y, ci nh r ∈ hs_as nh → r < 126 → xa_up T1 (ci 0 129) 2 (nI nh + 1) (ci nh r) y = 0 := fun r y m hr => by
    rw [up_o (ci_ne (by omega) (by decide) (by omega))]; exact (g3 _ m).1 y
  have aR : ∀ r y, ci nh r ∈ hs_as nh → r < 126 → xa_upr R1 (ci 0 126) nh (some (ci nh 0)) (ci nh r) y = cnr (ci nh r) y := fun r y m hr => by
    rw [upr_o (Or.inr (ci_ne (by omega) (by decide) (by omega)))]; exact (g3 _ m).2 y
  have oT : ∀ x r, x ≠ nh → r < 126 → xa_up T1 (ci 0 129) 2 (nI nh + 1) (ci x r) = T (ci x r) := fun x r hx hr => tT _ (Or.inl (by rw [ci_d (by omega)]; exact hx)) (ci_ne (by omega) (by decide) (by omega))
  have oR : ∀ x r, x ≠ nh → r < 126 → xa_upr R1 (ci 0 126) nh (some (ci nh 0)) (ci x r) = R (ci x r) := fun x r hx hr => tR _ (Or.inl (by rw [ci_d (by omega)]; exact hx)) (ci_ne (by omega) (by decide) (by omega))
  have lte : ∀ x, x ≠ nh → lt (xa_upr R1 (ci 0 126) nh (some (ci nh 0))) x = lt R x ∧ l2 (xa_upr R1 (ci 0 126) nh (some (ci nh 0))) x = l2 R x ∧ wh (xa_upr R1 (ci 0 126) nh (some (ci nh 0))) x = wh R x ∧ w2 (xa_upr R1 (ci 0 126) nh (some (ci nh 0))) x = w2 R x := fun x hx => by
    unfold lt l2 wh w2
    rw [oR x 0 hx (by decide), oR x 80 hx (by decide)]; exact ⟨rfl, rfl, rfl, rfl⟩
  have csl : ∀ x q, x ≠ nh → lat x q → cs_l L R q → cs_l L1 (xa_upr R1 (ci 0 126) nh (some (ci nh 0))) q := fun x q hx hl g => by
    refine ⟨(mem _).mpr (Or.inl g.1), g.2.1, fun f hf => ?_⟩
    have z := g.2.2 f hf
    have eq : q = q + 0 := rfl
    have d0 : q / 256 = x := lat_d (d := 0) hl (by decide)
    have m0 : q % 256 < 126 := by have := (lat_lc hl).1.2; omega
    rw [tR q (Or.inl (by rw [d0]; exact hx)) (fun e => by rw [e] at m0; exact absurd m0 (by decide))]
    exact ⟨z.1, (mem _).mpr (Or.inl z.2.1), z.2.2⟩
  have lrc : ∀ x q r nb, x ≠ nh → lat x q → lr T q S r nb → lr (xa_up T1 (ci 0 129) 2 (nI nh + 1)) q (xm_hoS S nh net lo hg rk) r nb := fun x q r nb hx hl g => by
    refine lr_row (S := S) ⟨fun a b1 b2 k hk => by rw [ho_a (by omega)], fun a b1 s hs => by rw [ho_a (by omega)]⟩ (lr_cell (T := T) (fun d hd => ?_) g)
    have lc := (lat_lc hl).1
    exact tT _ (Or.inl (by rw [lat_d hl hd]; exact hx)) (fun e => by unfold lcell at lc; have := congrArg (fun z => z % 256) e; simp only [ci] at this; have d2 := (lat_lc hl).2; omega)
  obtain ⟨i0h, i0r, i0a, i0w, i0s⟩ := hX.iv_0
  have z0 := i0h nh (Nat.le_refl _) hn
  have zr := i0r nh (Nat.le_refl _) hn
  have za := i0a nh (Nat.le_refl _) hn
  have zw := i0w nh (Nat.le_refl _) hn
  have s9 : xm_hoS S nh net lo hg rk 139 = S 139 := ho_a (by decide)
  have rwc : ∀ r, rowc S r → rowc (xm_hoS S nh net lo hg rk) r := fun r g => rowc_row ⟨fun a b1 b2 k hk => by rw [ho_a (by omega)], fun a b1 s hs => by rw [ho_a (by omega)]⟩ g
  refine ⟨?_, ?_, ?_, ?_, ?_, ?_, ?_, ?_, ?_, fun i hi => absurd hi (Nat.not_lt_zero i), ?_, ?_, ?_, ?_, ?_, ?_, ⟨Nat.zero_le _, hX.k_p0⟩, ?_⟩
  · -- rx_c
    refine ⟨(mem _).mpr (Or.inl hX.c_m129), (mem _).mpr (Or.inl hX.c_m126), (mem _).mpr (Or.inl hX.c_m127), ?_, ?_, fun x hx => ?_, fun s hs => ⟨(mem _).mpr (Or.inl (hX.sM hs)), ?_⟩, fun a y b g => ?_, fun x r hx hr => ?_, fun s hs => ?_, fun a ha => ?_⟩
    · rw [tR _ (Or.inr (by decide)) (ci_ne (by decide) (by decide) (by decide))]; exact hX.c_r0
    · rw [tR _ (Or.inr (by decide)) (ci_ne (by decide) (by decide) (by decide))]; exact hX.c_r1
    · by_cases e : x = nh
      · subst e
        refine ⟨⟨fun r hr => (mem _).mpr ?_, fun q hq => ?_⟩, upr_s⟩
        · rcases (by omega : r = 0 ∨ r = 1 ∨ r = 2 ∨ r = 3 ∨ r = 4 ∨ r = 5 ∨ r = 6 ∨ r = 7 ∨ r = 8 ∨ r = 9 ∨ r = 10) with c | c | c | c | c | c | c | c | c | c | c <;> (subst c; simp [hs_as])
        · simp only [cs_tab, List.mem_cons, List.not_mem_nil, or_false] at hq
          rcases hq with c | c | c | c | c | c | c | c | c | c
          · subst c; show xa_upr R1 (ci 0 126) x (some (ci x 0)) (ci x 0) 4 = _; rw [nR, cnr_ci (by decide)]; rfl
          · subst c; show xa_upr R1 (ci 0 126) x (some (ci x 0)) (ci x 0) 5 = _; rw [nR, cnr_ci (by decide)]; rfl
          · subst c; show xa_upr R1 (ci 0 126) x (some (ci x 0)) (ci x 0) 6 = _; rw [nR, cnr_ci (by decide)]; rfl
          all_goals (subst c; rw [aR _ _ (by simp [hs_as]) (by decide), cnr_ci (by decide)]; rfl)
      · have hx2 : x < nh := by omega
        refine ⟨⟨fun r hr => (mem _).mpr (Or.inl ((hX.hS hx2).1 r hr)), fun q hq => ?_⟩, ?_⟩
        · have n : q.1 < 126 := (by decide : ∀ q ∈ cs_tab, q.1 < 126) q hq
          rw [oR x _ e n]; exact (hX.hS hx2).2 q hq
        · rw [upr_o (Or.inl (fun c => e c)), g4 _ (hs_far (Or.inr (by decide))).1 (hs_far (Or.inr (by decide))).2]
          simp only [xa_zr, Ne.symm e126, if_false]; exact hX.hA hx2
    · rw [tR _ (Or.inr (by decide)) (ci_ne (by decide) (by decide) (by decide))]; exact hX.sA hs
    · unfold xa_upr at g
      split at g
      · rw [← Option.some.inj g]; exact (mem _).mpr (Or.inr (Or.inl rfl))
      · exact g6 a y b g
    · intro z
      rcases (mem _).mp z with c | c | c
      · exact hX.c_nh x r (by omega) hr c
      · exact absurd ((ci_inj (by omega) (by decide)).mp c).1 (by omega)
      · exact (hs_far (h := nh) (a := ci x r) (Or.inl (by rw [ci_d (by omega)]; omega))).1 c
    · intro z
      rcases (mem _).mp z with c | c | c
      · exact hX.c_ns s hs c
      · exact absurd c (ci_ne (by decide) (by decide) (by decide))
      · exact (hs_far (h := nh) (a := ci s 128) (Or.inr (by rw [ci_m (by decide)]; decide))).1 c
    · rcases (mem _).mp ha with c | c | c
      · exact hX.c_ok a c
      · subst c; rw [ci_m (by decide)]; decide
      · simp only [hs_as, List.mem_cons, List.not_mem_nil, or_false] at c
        unfold ci at c; omega
  · -- rx_l
    intro x hx
    rw [s9]
    by_cases e : x = nh
    · subst e
      have el : lt (xa_upr R1 (ci 0 126) x (some (ci x 0))) x = ci x 16 := by
        unfold lt; rw [nR, cnr_ci (by decide)]; rfl
      rw [el]
      refine ⟨by rw [nR, cnr_ci (by decide)]; rfl, ⟨(mem _).mpr (by simp [hs_as]), kd_16 _, fun f hf => ?_⟩, Or.inl rfl, fun _ => rfl, fun c => absurd z0.2.2.1 c, fun _ r r1 r2 z => ?_⟩
      · simp only [cl_tab, List.mem_cons, List.not_mem_nil, or_false] at hf
        rcases hf with c | c | c | c | c | c | c | c | c | c <;> (subst c; refine ⟨by rw [aR _ _ (by simp [hs_as]) (by decide), cnr_ci (by decide)]; rfl, (mem _).mpr (by rw [ci_p]; simp [hs_as]), by rw [ci_p]; exact ci_kd _ _ (by decide), by rw [ci_p]; exact ci_ln _ _ (by decide)⟩)
      · rcases (mem _).mp z with c | c | c
        · exact hX.c_nh x r (Nat.le_refl _) r2 c
        · exact absurd ((ci_inj (by omega) (by decide)).mp c).2 (by omega)
        · exact (hs_far (h := x) (a := ci x r) (Or.inr (by rw [ci_m (by omega)]; exact r1))).1 c
    · have hx2 : x < nh := by omega
      have q := hX.rx_l x hx2
      have l := lte x e
      rw [l.1, l.2.1, l.2.2.1, l.2.2.2, oR x 0 e (by decide), oR x 80 e (by decide)]
      refine ⟨q.1, csl x _ e (lat_lt hX hx2) q.2.1, q.2.2.1, q.2.2.2.1, fun g => ?_, fun g r r1 r2 z => ?_⟩
      · have w := q.2.2.2.2.1 g
        have lb := lat_b hX hx2 g
        exact ⟨(mem _).mpr (Or.inl w.1), w.2.1, w.2.2.1, w.2.2.2.1, csl x _ e lb.1 w.2.2.2.2.1, csl x _ e lb.2.1 w.2.2.2.2.2.1, csl x _ e lb.2.2 w.2.2.2.2.2.2.1, w.2.2.2.2.2.2.2⟩
      · rcases (mem _).mp z with c | c | c
        · exact q.2.2.2.2.2 g r r1 r2 c
        · exact e ((ci_inj (by omega) (by decide)).mp c).1
        · exact (hs_far (h := nh) (a := ci x r) (Or.inl (by rw [ci_d (by omega)]; exact e))).1 c
  · -- rx_g
    have q := hX.rx_g
    have t : ∀ y, y ≠ 2 → xa_up T1 (ci 0 129) 2 (nI nh + 1) (ci 0 129) y = T (ci 0 129) y := fun y hy => by
      rw [up_k hy, g2 _ (hs_far (Or.inr (by decide))).1]
      unfold hoT
      have z : ci 0 129 ≠ ci nh 0 := Ne.symm e129
      rw [up_o z, up_o z, up_o z, up_o z, up_o z, up_o z]
      simp [xa_zi, z]
    simp only [rx_g, up_s, t 3 (by decide), t 4 (by decide), t 5 (by decide), t 6 (by decide), t 7 (by decide), t 8 (by decide), t 9 (by decide), t 10 (by decide), t 11 (by decide), t 12 (by decide), ho_g (S := S) (nh := nh) (net := net) (lo := lo) (hg := hg) (rk := rk) (j := 36) (by decide), ho_g (S := S) (nh := nh) (net := net) (lo := lo) (hg := hg) (rk := rk) (j := 37) (by decide), ho_g (S := S) (nh := nh) (net := net) (lo := lo) (hg := hg) (rk := rk) (j := 38) (by decide), ho_g (S := S) (nh := nh) (net := net) (lo := lo) (hg := hg) (rk := rk) (j := 39) (by decide), ho_g (S := S) (nh := nh) (net := net) (lo := lo) (hg := hg) (rk := rk) (j := 40) (by decide), ho_g (S := S) (nh := nh) (net := net) (lo := lo) (hg := hg) (rk := rk) (j := 41) (by decide), ho_g (S := S) (nh := nh) (net := net) (lo := lo) (hg := hg) (rk := rk) (j := 42) (by decide), ho_g (S := S) (nh := nh) (net := net) (lo := lo) (hg := hg) (rk := rk) (j := 43) (by decide), ho_g (S := S) (nh := nh) (net := net) (lo := lo) (hg := hg) (rk := rk) (j := 44) (by decide)] at q ⊢
    exact ⟨nI_1 nh, q.2⟩
  · -- rx_h
    intro x hx
    by_cases e : x = nh
    · subst e
      refine ⟨?_, ?_, ?_, ?_, ?_, ?_, ?_, ?_, ?_, ?_, fun _ => by rw [nR]; rfl, fun c => absurd (by rw [s9]; exact z0.2.2.1) c, fun c => absurd (by rw [s9]; exact z0.2.2.1) c, fun c => absurd (by rw [s9]; exact z0.2.2.1) c, fun c => ?_, fun a c => ?_⟩
      · rw [nT]; simp [hoT, xa_up]
      · rw [nT]; simp [hoT, xm_hoS, xa_up]
      · rw [nT]; simp [hoT, xm_hoS, xa_up]
      · rw [nT]; simp [hoT, xm_hoS, xa_up]
      · rw [nT]; simp [hoT, xm_hoS, xa_up]
      · rw [nT, show xs (xm_hoS S x net lo hg rk) x = 2 by unfold xs; rw [ho_a (a := 137) (by decide), if_pos z0.1]; simp [xm_hoS, xa_up]]
        simp [hoT, xa_up]
      · rw [nT, ho_a (by decide), z0.2.1]; simp [hoT, xa_up, xa_zi]
      · rw [nT, ho_a (by decide), z0.2.2.2.2.1]; simp [hoT, xa_up, xa_zi]
      · rw [nT, ho_a (by decide), z0.2.2.2.2.2]; simp [hoT, xa_up, xa_zi]
      · rw [nT, ho_a (by decide), z0.2.2.2.1]; simp [hoT, xa_up, xa_zi]
      · simp [xm_hoS, xa_up] at c
      · rw [nR, if_neg (by decide)] at c; cases c
    · have hx2 : x < nh := by omega
      have q := hX.rx_h x hx2
      have hx0 := oR x 0 e (by decide)
      simp only [xs, ho_x (S := S) (a := 131) (nh := nh) (net := net) (lo := lo) (hg := hg) (rk := rk) (by decide) e, ho_x (S := S) (a := 132) (nh := nh) (net := net) (lo := lo) (hg := hg) (rk := rk) (by decide) e, ho_x (S := S) (a := 133) (nh := nh) (net := net) (lo := lo) (hg := hg) (rk := rk) (by decide) e, ho_x (S := S) (a := 134) (nh := nh) (net := net) (lo := lo) (hg := hg) (rk := rk) (by decide) e, ho_x (S := S) (a := 135) (nh := nh) (net := net) (lo := lo) (hg := hg) (rk := rk) (by decide) e, ho_x (S := S) (a := 136) (nh := nh) (net := net) (lo := lo) (hg := hg) (rk := rk) (by decide) e, ho_x (S := S) (a := 141) (nh := nh) (net := net) (lo := lo) (hg := hg) (rk := rk) (by decide) e, ho_a (S := S) (a := 137) (nh := nh) (net := net) (lo := lo) (hg := hg) (rk := rk) (by decide), ho_a (S := S) (a := 138) (nh := nh) (net := net) (lo := lo) (hg := hg) (rk := rk) (by decide), ho_a (S := S) (a := 139) (nh := nh) (net := net) (lo := lo) (hg := hg) (rk := rk) (by decide), ho_a (S := S) (a := 140) (nh := nh) (net := net) (lo := lo) (hg := hg) (rk := rk) (by decide), ho_a (S := S) (a := 142) (nh := nh) (net := net) (lo := lo) (hg := hg) (rk := rk) (by decide), ho_a (S := S) (a := 143) (nh := nh) (net := net) (lo := lo) (hg := hg) (rk := rk) (by decide), ho_a (S := S) (a := 144) (nh := nh) (net := net) (lo := lo) (hg := hg) (rk := rk) (by decide)] at q ⊢
      rw [oT x 0 e (by decide), oT x 80 e (by decide), hx0]
      refine ⟨q.1, q.2.1, q.2.2.1, q.2.2.2.1, q.2.2.2.2.1, q.2.2.2.2.2.1, q.2.2.2.2.2.2.1, q.2.2.2.2.2.2.2.1, q.2.2.2.2.2.2.2.2.1, q.2.2.2.2.2.2.2.2.2.1, q.2.2.2.2.2.2.2.2.2.2.1, q.2.2.2.2.2.2.2.2.2.2.2.1, q.2.2.2.2.2.2.2.2.2.2.2.2.1, q.2.2.2.2.2.2.2.2.2.2.2.2.2.1, q.2.2.2.2.2.2.2.2.2.2.2.2.2.2.1, fun a ha => ?_⟩
      obtain ⟨j, hj, ej⟩ := q.2.2.2.2.2.2.2.2.2.2.2.2.2.2.2 a ha
      exact ⟨j, by omega, ej⟩
  · -- rx_s
    intro s hs
    have q := hX.rx_s s hs
    rw [tT (ci s 128) (Or.inr (by rw [ci_m (by decide)]; decide)) (ci_ne (by decide) (by decide) (by decide)), tR (ci s 128) (Or.inr (by rw [ci_m (by decide)]; decide)) (ci_ne (by decide) (by decide) (by decide))]
    simp only [ho_a (S := S) (a := 146) (nh := nh) (net := net) (lo := lo) (hg := hg) (rk := rk) (by decide), ho_a (S := S) (a := 147) (nh := nh) (net := net) (lo := lo) (hg := hg) (rk := rk) (by decide), ho_a (S := S) (a := 148) (nh := nh) (net := net) (lo := lo) (hg := hg) (rk := rk) (by decide), ho_a (S := S) (a := 149) (nh := nh) (net := net) (lo := lo) (hg := hg) (rk := rk) (by decide), ho_a (S := S) (a := 150) (nh := nh) (net := net) (lo := lo) (hg := hg) (rk := rk) (by decide), ho_a (S := S) (a := 151) (nh := nh) (net := net) (lo := lo) (hg := hg) (rk := rk) (by decide), ho_a (S := S) (a := 152) (nh := nh) (net := net) (lo := lo) (hg := hg) (rk := rk) (by decide), ho_a (S := S) (a := 153) (nh := nh) (net := net) (lo := lo) (hg := hg) (rk := rk) (by decide), ho_a (S := S) (a := 154) (nh := nh) (net := net) (lo := lo) (hg := hg) (rk := rk) (by decide), ho_a (S := S) (a := 155) (nh := nh) (net := net) (lo := lo) (hg := hg) (rk := rk) (by decide), ho_a (S := S) (a := 156) (nh := nh) (net := net) (lo := lo) (hg := hg) (rk := rk) (by decide)]
    exact q
  · -- rx_r
    intro x hx s hs
    simp only [ho_a (S := S) (a := 158) (nh := nh) (net := net) (lo := lo) (hg := hg) (rk := rk) (by decide), ho_a (S := S) (a := 159) (nh := nh) (net := net) (lo := lo) (hg := hg) (rk := rk) (by decide), ho_a (S := S) (a := 160) (nh := nh) (net := net) (lo := lo) (hg := hg) (rk := rk) (by decide), ho_a (S := S) (a := 161) (nh := nh) (net := net) (lo := lo) (hg := hg) (rk := rk) (by decide), ho_a (S := S) (a := 162) (nh := nh) (net := net) (lo := lo) (hg := hg) (rk := rk) (by decide), ho_a (S := S) (a := 163) (nh := nh) (net := net) (lo := lo) (hg := hg) (rk := rk) (by decide)]
    by_cases e : x = nh
    · subst e
      have z := zr s hs
      rw [aT 1 _ (by simp [hs_as]) (by decide), aT 2 _ (by simp [hs_as]) (by decide), aT 3 _ (by simp [hs_as]) (by decide), aT 4 _ (by simp [hs_as]) (by decide), aT 5 _ (by simp [hs_as]) (by decide), aT 9 _ (by simp [hs_as]) (by decide), z.1, z.2.1, z.2.2.1, z.2.2.2.1, z.2.2.2.2.1, z.2.2.2.2.2, b_0]
      exact ⟨rfl, rfl, rfl, rfl, rfl, rfl, fun c => absurd rfl c⟩
    · rw [oT x 1 e (by decide), oT x 2 e (by decide), oT x 3 e (by decide), oT x 4 e (by decide), oT x 5 e (by decide), oT x 9 e (by decide), oT x 10 e (by decide)]
      exact hX.rx_r x (by omega) s hs
  · -- rx_a
    intro x hx y hy
    simp only [ho_a (S := S) (a := 164) (nh := nh) (net := net) (lo := lo) (hg := hg) (rk := rk) (by decide), ho_a (S := S) (a := 165) (nh := nh) (net := net) (lo := lo) (hg := hg) (rk := rk) (by decide), ho_a (S := S) (a := 166) (nh := nh) (net := net) (lo := lo) (hg := hg) (rk := rk) (by decide)]
    by_cases e : x = nh
    · subst e
      have z := za y hy
      rw [aT 6 _ (by simp [hs_as]) (by decide), aT 7 _ (by simp [hs_as]) (by decide), aT 8 _ (by simp [hs_as]) (by decide), z.1, z.2.1, z.2.2, b_0]
      exact ⟨rfl, rfl, rfl⟩
    · rw [oT x 6 e (by decide), oT x 7 e (by decide), oT x 8 e (by decide)]
      exact hX.rx_a x (by omega) y hy
  · -- rx_b
    intro x hx y hy
    by_cases e : x = nh
    · subst e; rw [aT 6 _ (by simp [hs_as]) (by decide), b_0]
    · rw [oT x 6 e (by decide)]; exact hX.rx_b x (by omega) y hy
  · -- rx_w
    intro x hx
    rw [s9]
    by_cases e : x = nh
    · subst e; exact ⟨fun _ => ⟨rwc _ zw.1, rwc _ zw.2⟩, fun c => absurd z0.2.2.1 c⟩
    · have q := hX.rx_w x (by omega)
      have l := lte x e
      rw [l.2.2.1, l.2.2.2, ho_x (a := 136) (by decide) e]
      exact ⟨fun g => ⟨rwc _ (q.1 g).1, rwc _ (q.1 g).2⟩, fun c1 c2 => ⟨lrc x _ _ _ e (lat_b hX (by omega) c1).2.1 (q.2 c1 c2).1, lrc x _ _ _ e (lat_b hX (by omega) c1).2.2 (q.2 c1 c2).2⟩⟩
  · -- xm_wf
    obtain ⟨w1, w2, w3, w4, w5⟩ := hX.xm_wf
    refine ⟨by omega, w2, ?_, ?_, fun s hs => ?_⟩
    · show xa_up _ 130 14 (S 130 14 + 1) 130 14 = _
      rw [up_s, w3]; exact nI_1 nh
    · rw [ho_g (by decide)]; exact w4
    · rw [ho_a (by decide)]; exact vp_mono (w5 s hs) (by omega)
  · -- iv_h
    intro x hx
    by_cases e : x = nh
    · subst e
      rw [s9, ho_a (a := 137) (by decide), ho_a (a := 138) (by decide), ho_a (a := 143) (by decide), ho_a (a := 144) (by decide), z0.1, z0.2.1, z0.2.2.1, z0.2.2.2.2.1, z0.2.2.2.2.2]
      have v6 : xm_hoS S x net lo hg rk 136 x = 2 := by simp [xm_hoS, xa_up]
      have v1 : xm_hoS S x net lo hg rk 131 x = net := by simp [xm_hoS, xa_up]
      have v2 : xm_hoS S x net lo hg rk 132 x = -1 := by simp [xm_hoS, xa_up]
      have v3 : xm_hoS S x net lo hg rk 133 x = lo := by simp [xm_hoS, xa_up]
      have v4 : xm_hoS S x net lo hg rk 134 x = hg := by simp [xm_hoS, xa_up]
      rw [v6, v1, v2, v3, v4]
      have a1 := xm_in_t.mp h1
      have a2 := xm_in_t.mp h2
      have a3 := xm_in_t.mp h3
      refine ⟨Or.inr (Or.inr rfl), Or.inl rfl, ?_, fun _ => rfl, fun c => absurd rfl c, fun c => absurd c (by decide), Or.inl rfl, Or.inl rfl, ⟨a2.1, a3.1, a3.2⟩, ?_, ?_⟩
      · rw [fa_le, fa_le] at a1
        have e0 : (0 : Int32).toInt = 0 := rfl
        have e3 : (3 : Int32).toInt = 3 := rfl
        rw [e0, e3] at a1
        exact vp_in_iff.mpr ⟨by omega, by omega⟩
      · exact xa_in_of (j := 0) (by decide) (by decide)
      · exact xa_in_of (j := 0) (by decide) (by decide)
    · have q := hX.iv_h x (by omega)
      simp only [ho_x (S := S) (a := 131) (nh := nh) (net := net) (lo := lo) (hg := hg) (rk := rk) (by decide) e, ho_x (S := S) (a := 132) (nh := nh) (net := net) (lo := lo) (hg := hg) (rk := rk) (by decide) e, ho_x (S := S) (a := 133) (nh := nh) (net := net) (lo := lo) (hg := hg) (rk := rk) (by decide) e, ho_x (S := S) (a := 134) (nh := nh) (net := net) (lo := lo) (hg := hg) (rk := rk) (by decide) e, ho_x (S := S) (a := 135) (nh := nh) (net := net) (lo := lo) (hg := hg) (rk := rk) (by decide) e, ho_x (S := S) (a := 136) (nh := nh) (net := net) (lo := lo) (hg := hg) (rk := rk) (by decide) e, ho_x (S := S) (a := 141) (nh := nh) (net := net) (lo := lo) (hg := hg) (rk := rk) (by decide) e, ho_a (S := S) (a := 137) (nh := nh) (net := net) (lo := lo) (hg := hg) (rk := rk) (by decide), ho_a (S := S) (a := 138) (nh := nh) (net := net) (lo := lo) (hg := hg) (rk := rk) (by decide), ho_a (S := S) (a := 139) (nh := nh) (net := net) (lo := lo) (hg := hg) (rk := rk) (by decide), ho_a (S := S) (a := 140) (nh := nh) (net := net) (lo := lo) (hg := hg) (rk := rk) (by decide), ho_a (S := S) (a := 142) (nh := nh) (net := net) (lo := lo) (hg := hg) (rk := rk) (by decide), ho_a (S := S) (a := 143) (nh := nh) (net := net) (lo := lo) (hg := hg) (rk := rk) (by decide), ho_a (S := S) (a := 144) (nh := nh) (net := net) (lo := lo) (hg := hg) (rk := rk) (by decide)]
      refine ⟨q.1, q.2.1, q.2.2.1, q.2.2.2.1, q.2.2.2.2.1, fun g => ?_, q.2.2.2.2.2.2⟩
      have w := q.2.2.2.2.2.1 g
      have el : xc (S 141 x) < nh := xa_in_lt w.1
      rw [ho_x (a := 131) (by decide) (by omega)]
      exact ⟨vp_mono w.1 (by omega), w.2⟩
  · -- iv_s
    intro s hs
    have q := hX.iv_s s hs
    have ho := hX.hO hs
    simp only [ho_a (S := S) (a := 137) (nh := nh) (net := net) (lo := lo) (hg := hg) (rk := rk) (by decide), ho_a (S := S) (a := 146) (nh := nh) (net := net) (lo := lo) (hg := hg) (rk := rk) (by decide), ho_a (S := S) (a := 147) (nh := nh) (net := net) (lo := lo) (hg := hg) (rk := rk) (by decide), ho_a (S := S) (a := 148) (nh := nh) (net := net) (lo := lo) (hg := hg) (rk := rk) (by decide), ho_a (S := S) (a := 149) (nh := nh) (net := net) (lo := lo) (hg := hg) (rk := rk) (by decide), ho_a (S := S) (a := 150) (nh := nh) (net := net) (lo := lo) (hg := hg) (rk := rk) (by decide), ho_a (S := S) (a := 151) (nh := nh) (net := net) (lo := lo) (hg := hg) (rk := rk) (by decide), ho_a (S := S) (a := 152) (nh := nh) (net := net) (lo := lo) (hg := hg) (rk := rk) (by decide), ho_a (S := S) (a := 153) (nh := nh) (net := net) (lo := lo) (hg := hg) (rk := rk) (by decide), ho_a (S := S) (a := 154) (nh := nh) (net := net) (lo := lo) (hg := hg) (rk := rk) (by decide), ho_a (S := S) (a := 155) (nh := nh) (net := net) (lo := lo) (hg := hg) (rk := rk) (by decide), ho_a (S := S) (a := 156) (nh := nh) (net := net) (lo := lo) (hg := hg) (rk := rk) (by decide)]
    rw [ho_x (a := 133) (by decide) (by omega), ho_x (a := 134) (by decide) (by omega)]
    exact q
  · -- iv_r
    intro x hx s hs
    simp only [ho_a (S := S) (a := 158) (nh := nh) (net := net) (lo := lo) (hg := hg) (rk := rk) (by decide), ho_a (S := S) (a := 159) (nh := nh) (net := net) (lo := lo) (hg := hg) (rk := rk) (by decide), ho_a (S := S) (a := 160) (nh := nh) (net := net) (lo := lo) (hg := hg) (rk := rk) (by decide), ho_a (S := S) (a := 161) (nh := nh) (net := net) (lo := lo) (hg := hg) (rk := rk) (by decide), ho_a (S := S) (a := 162) (nh := nh) (net := net) (lo := lo) (hg := hg) (rk := rk) (by decide), ho_a (S := S) (a := 163) (nh := nh) (net := net) (lo := lo) (hg := hg) (rk := rk) (by decide)]
    by_cases e : x = nh
    · subst e
      have z := zr s hs
      refine ⟨fun c => absurd z.1 c, by rw [z.2.2.2.2.1]; exact xa_in_of (j := 0) (by decide) (by decide), fun c => absurd z.2.2.2.2.2 c, fun y _ c => absurd z.1 c⟩
    · exact hX.iv_r x (by omega) s hs
  · -- iv_0
    simp only [iv_0, ho_a (S := S) (a := 137) (nh := nh) (net := net) (lo := lo) (hg := hg) (rk := rk) (by decide), ho_a (S := S) (a := 138) (nh := nh) (net := net) (lo := lo) (hg := hg) (rk := rk) (by decide), ho_a (S := S) (a := 139) (nh := nh) (net := net) (lo := lo) (hg := hg) (rk := rk) (by decide), ho_a (S := S) (a := 142) (nh := nh) (net := net) (lo := lo) (hg := hg) (rk := rk) (by decide), ho_a (S := S) (a := 143) (nh := nh) (net := net) (lo := lo) (hg := hg) (rk := rk) (by decide), ho_a (S := S) (a := 144) (nh := nh) (net := net) (lo := lo) (hg := hg) (rk := rk) (by decide), ho_a (S := S) (a := 154) (nh := nh) (net := net) (lo := lo) (hg := hg) (rk := rk) (by decide), ho_a (S := S) (a := 155) (nh := nh) (net := net) (lo := lo) (hg := hg) (rk := rk) (by decide), ho_a (S := S) (a := 156) (nh := nh) (net := net) (lo := lo) (hg := hg) (rk := rk) (by decide), ho_a (S := S) (a := 158) (nh := nh) (net := net) (lo := lo) (hg := hg) (rk := rk) (by decide), ho_a (S := S) (a := 159) (nh := nh) (net := net) (lo := lo) (hg := hg) (rk := rk) (by decide), ho_a (S := S) (a := 160) (nh := nh) (net := net) (lo := lo) (hg := hg) (rk := rk) (by decide), ho_a (S := S) (a := 161) (nh := nh) (net := net) (lo := lo) (hg := hg) (rk := rk) (by decide), ho_a (S := S) (a := 162) (nh := nh) (net := net) (lo := lo) (hg := hg) (rk := rk) (by decide), ho_a (S := S) (a := 163) (nh := nh) (net := net) (lo := lo) (hg := hg) (rk := rk) (by decide), ho_a (S := S) (a := 164) (nh := nh) (net := net) (lo := lo) (hg := hg) (rk := rk) (by decide), ho_a (S := S) (a := 165) (nh := nh) (net := net) (lo := lo) (hg := hg) (rk := rk) (by decide), ho_a (S := S) (a := 166) (nh := nh) (net := net) (lo := lo) (hg := hg) (rk := rk) (by decide)]
    exact ⟨fun x h1 h2 => i0h x (by omega) h2, fun x h1 h2 => i0r x (by omega) h2, fun x h1 h2 => i0a x (by omega) h2, fun x h1 h2 => ⟨rwc _ (i0w x (by omega) h2).1, rwc _ (i0w x (by omega) h2).2⟩, i0s⟩
  · unfold iv_g; rw [ho_g (by decide)]; exact hX.iv_g
  · -- iv_e
    intro x hx s hs
    rw [ho_a (a := 158) (by decide), ho_a (a := 162) (by decide), ho_g (by decide)]
    by_cases e : x = nh
    · subst e; intro c; exact absurd (zr s hs).1 c
    · exact hX.iv_e x (by omega) s hs
