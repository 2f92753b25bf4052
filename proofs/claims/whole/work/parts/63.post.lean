set_option maxHeartbeats 200000 in
theorem rx_written {nh ns k : Nat} {pw : Nat → Nat} {L : List Nat} {T : xa_AH} {R : xa_AR} {S : xa_AH} (hX : RX nh ns k pw L T R S) {h : Nat} {v : Int32} (hh : h < nh) : RX nh ns k pw L (xa_up T (ci h 0) 14 v) R (xa_up S 142 h v) := by
  refine ⟨hX.rx_c, by rw [rx_l_S (by decide)]; exact hX.rx_l, by rw [rx_g_S (by decide), rx_g_T (by decide) (by decide)]; exact hX.rx_g, ?_, by rw [rx_s_S (by decide), rx_s_T (by decide) (by decide)]; exact hX.rx_s, by rw [rx_r_S (by decide), rx_r_T (by decide) (by decide)]; exact hX.rx_r, by rw [rx_a_S (by decide), rx_a_T (by decide) (by decide)]; exact hX.rx_a, by rw [rx_b_T (by decide) (by decide)]; exact hX.rx_b, by rw [rx_w_S (by decide), rx_w_T hX.rx_l (nlc (by decide) (by decide))]; exact hX.rx_w, by rw [rx_p_S (by decide), rx_p_T hX.rx_l hX.rx_k (nlc (by decide) (by decide))]; exact hX.rx_p, (xm_wf_up hX.xm_wf rfl), ?_, by rw [iv_s_S (by decide)]; exact hX.iv_s, by rw [iv_r_S (by decide)]; exact hX.iv_r, ?_, by rw [iv_g_S (by decide)]; exact hX.iv_g, hX.rx_k, by rw [iv_e_S (by decide)]; exact hX.iv_e⟩
  · intro x hx
    have q := hX.rx_h x hx
    simp only [up_ci (r := 0) (q := 0) (by decide) (by decide), up_ci (r := 0) (q := 80) (by decide) (by decide), xs, up_S, Nat.reduceEqDiff, true_and, false_and, and_false, if_false, and_true, reduceIte] at q ⊢
    refine ⟨q.1, q.2.1, q.2.2.1, q.2.2.2.1, q.2.2.2.2.1, q.2.2.2.2.2.1, q.2.2.2.2.2.2.1, q.2.2.2.2.2.2.2.1, q.2.2.2.2.2.2.2.2.1, by split <;> first | rfl | exact q.2.2.2.2.2.2.2.2.2.1, q.2.2.2.2.2.2.2.2.2.2.1, q.2.2.2.2.2.2.2.2.2.2.2.1, q.2.2.2.2.2.2.2.2.2.2.2.2.1, q.2.2.2.2.2.2.2.2.2.2.2.2.2.1, q.2.2.2.2.2.2.2.2.2.2.2.2.2.2.1, q.2.2.2.2.2.2.2.2.2.2.2.2.2.2.2⟩
  · exact hX.iv_h
  · have q := hX.iv_0
    refine ⟨fun x h1 h2 => ?_, q.2.1, q.2.2.1, q.2.2.2.1, q.2.2.2.2⟩
    have g := q.1 x h1 h2
    have e : ¬ x = h := by omega
    simp only [up_S, Nat.reduceEqDiff, true_and, false_and, and_false, if_false, and_true, reduceIte, e] at g ⊢
    exact g
theorem lne_bare {T : xa_AH} {q r : Nat} {S : xa_AH} {nb : Int32} (g : lr T q S r nb) : lne T q = !xm_bare S r := by
  have key : lx_all T q = 0 ↔ xm_bare S r = true := by
    unfold xm_bare lx_all
    rw [bt_zero, Bool.and_eq_true, Bool.not_eq_true', Bool.not_eq_true', xa_any_no, xa_any_no]
    constructor
    · intro z
      have z2 : ∀ i, i < 32 → bt (T q 1) i = false ∧ bt (T q 5) i = false ∧ bt (T q 8) i = false ∧ bt (T q 10) i = false := fun i hi => by
        have := z i hi
        rw [b_or, b_or, b_or] at this
        simpa [and_assoc] using this
      refine ⟨fun i hi => ?_, fun i hi => ?_⟩
      · have := (z2 i (by omega)).1
        rw [(g.1 i hi).1] at this; exact this
      · have w := z2 i hi
        rw [(g.2.2 i hi).1.1, (g.2.2 i hi).2.1.1, (g.2.2 i hi).2.2.1] at w
        unfold xm_b2; rw [w.2.1, w.2.2.1, w.2.2.2]; rfl
    · rintro ⟨z1, z2⟩ i hi
      rw [b_or, b_or, b_or]
      have w := z2 i hi
      unfold xm_b2 at w
      rw [← (g.2.2 i hi).1.1, ← (g.2.2 i hi).2.1.1, ← (g.2.2 i hi).2.2.1] at w
      have a : bt (T q 1) i = false := by
        by_cases c : i < 16
        · rw [(g.1 i c).1]; exact z1 i c
        · exact g.2.1 i (by omega)
      rw [a]
      simp only [Bool.or_eq_false_iff] at w
      rw [w.1, w.2.1, w.2.2]; rfl
  unfold lne
  cases h : xm_bare S r with
  | true => rw [decide_eq_true (key.mpr h)]
  | false => rw [decide_eq_false (fun w => by rw [key.mp w] at h; cases h)]
theorem lr_empty {T : xa_AH} {q r : Nat} {S : xa_AH} {nb : Int32} (h1 : T q 1 = 0) (h5 : T q 5 = 0) (h8 : T q 8 = 0) (h10 : T q 10 = 0) (g : rowc S r) : lr T q S r nb := by
  refine ⟨fun k hk => ?_, fun k hk => by rw [h1, b_0], fun s hs => ?_⟩
  · rw [h1, b_0, g.1 k hk]; simp
  · have w := g.2 s hs
    rw [h5, h8, h10, b_0, w.1, w.2.1, w.2.2]; simp
def lx_clear (T : xa_AH) (q : Nat) : xa_AH := xa_up (xa_up (xa_up (xa_up T q 1 0) q 5 0) q 8 0) q 10 0
theorem lx_clear_o {T : xa_AH} {q a : Nat} (h : a ≠ q) : lx_clear T q a = T a := by
  unfold lx_clear; rw [up_o h, up_o h, up_o h, up_o h]
theorem lx_clear_s {T : xa_AH} {q : Nat} : lx_clear T q q 1 = 0 ∧ lx_clear T q q 5 = 0 ∧ lx_clear T q q 8 = 0 ∧ lx_clear T q q 10 = 0 := by
  unfold lx_clear; simp [xa_up]
theorem lne_clear {T : xa_AH} {q : Nat} : lne (lx_clear T q) q = false := by
  have z := lx_clear_s (T := T) (q := q)
  unfold lne lx_all
  rw [z.1, z.2.1, z.2.2.1, z.2.2.2]; rfl
/-- the letter of host h is emptied -/
theorem RX_clear {nh ns h : Nat} {pw : Nat → Nat} {L : List Nat} {T : xa_AH} {R : xa_AR} {S : xa_AH} (hX : RX nh ns h pw L T R S) (hh : h < nh) : RX nh ns h pw L (lx_clear T (lt R h)) R S := RX_cur hX hh (fun a g => lx_clear_o (by omega)) (fun a _ => rfl) (fun r _ _ => rowsame_rf)
theorem clr_same {S : xa_AH} {r r0 : Nat} (n : r ≠ r0) : rowsame S (xm_clr r0 S) r := ⟨fun a h1 h2 k hk => by rw [clr_e, if_neg]; omega, fun a h1 s hs => by rw [clr_e, if_neg]; omega⟩
theorem WX_clear {nh ns h : Nat} {pw : Nat → Nat} {L : List Nat} {T : xa_AH} {R : xa_AR} {S : xa_AH} (hX : RX nh ns h pw L T R S) (hh : h < nh) (nb : Int32) : WX nh ns h pw L (lx_clear T (lt R h)) R (xm_clr (pw h) S) nb := by
  have z := lx_clear_s (T := T) (q := lt R h)
  exact ⟨RX_cur hX hh (fun a g => lx_clear_o (by omega)) (fun a ha => clr_a ha) (fun r _ n => clr_same n), lr_empty z.1 z.2.1 z.2.2.1 z.2.2.2 (clr_rowc _ _)⟩
theorem RX_cur2 {nh ns h : Nat} {pw : Nat → Nat} {L : List Nat} {T : xa_AH} {R : xa_AR} {S : xa_AH} (hX : RX nh ns h pw L T R S) {T2 S2 : xa_AH} {r0 : Nat} (hh : h < nh) (hb : ¬ S 139 h = 0) (hr0 : pw h ≤ r0 ∧ r0 < 24) (hT : ∀ a, (a < l2 R h ∨ l2 R h + 15 < a) → T2 a = T a) (hS : ∀ a, a < 179 → S2 a = S a) (hR : ∀ r, r < 48 → r ≠ r0 → rowsame S S2 r) : RX nh ns h pw L T2 R S2 := by
  have n12 := hX.n12
  have b := hX.pwb h (Nat.le_refl _)
  have lh := (lat_b hX hh hb).1
  refine RX_one hX hh lh hT hS hR ?_ ?_ ?_
  · intro x hx g1 g2
    have lx := lat_b hX hx g1
    refine ⟨fun c => ?_, fun c => ?_⟩
    · exfalso; rcases c with c | c
      · by_cases e : x = h
        · subst e; exact (four hX hx g1).2.2.2.1 c.symm
        · exact lat_host lx.2.1 lh e c
      · omega
    · exfalso; rcases c with c | c
      · by_cases e : x = h
        · subst e; exact (four hX hx g1).2.2.2.2.1 c.symm
        · exact lat_host lx.2.2 lh e c
      · omega
  · intro x hx _; omega
  · intro i hi
    have m := pw_le hX h (Nat.le_refl _) (i + 1) (by omega)
    have s := hX.p_s hi
    refine ⟨lat_host (lat_lt hX (by omega)) lh (by omega), fun g => lat_host (lat_b hX (by omega) g).1 lh (by omega), fun g => ?_, fun g1 g2 => ?_⟩
    · rw [if_pos g] at s; omega
    · rw [if_pos (show ¬ S 139 i = 0 ∧ lne T (l2 R i) = true from ⟨g1, g2⟩)] at s; omega
/-- S alone: the count of rows, and who wrote a row and where -/
theorem RX_47 {nh ns k : Nat} {pw : Nat → Nat} {L : List Nat} {T : xa_AH} {R : xa_AR} {S : xa_AH} (hX : RX nh ns k pw L T R S) {v : Int32} : RX nh ns k pw L T R (xa_up S 130 47 v) := by
  have e : ∀ j, j ≠ 47 → xa_up S 130 47 v 130 j = S 130 j := fun j hj => up_k hj
  refine ⟨hX.rx_c, by rw [rx_l_S (by decide)]; exact hX.rx_l, ?_, by rw [rx_h_S (by decide)]; exact hX.rx_h, by rw [rx_s_S (by decide)]; exact hX.rx_s, by rw [rx_r_S (by decide)]; exact hX.rx_r, by rw [rx_a_S (by decide)]; exact hX.rx_a, hX.rx_b, by rw [rx_w_S (by decide)]; exact hX.rx_w, by rw [rx_p_S (by decide)]; exact hX.rx_p, xm_wf_up hX.xm_wf rfl, by rw [iv_h_S (by decide)]; exact hX.iv_h, by rw [iv_s_S (by decide)]; exact hX.iv_s, by rw [iv_r_S (by decide)]; exact hX.iv_r, by rw [iv_0_S (by decide)]; exact hX.iv_0, iv_g_c hX.iv_g (by decide), hX.rx_k, iv_e_c hX.iv_e (by decide)⟩
  have q := hX.rx_g
  unfold rx_g
  rw [e 36 (by decide), e 37 (by decide), e 43 (by decide), e 38 (by decide), e 39 (by decide), e 40 (by decide), e 41 (by decide), e 42 (by decide), e 44 (by decide)]
  exact q
theorem RX_17x {nh ns h : Nat} {pw : Nat → Nat} {L : List Nat} {T : xa_AH} {R : xa_AR} {S : xa_AH} (hX : RX nh ns h pw L T R S) {r0 b : Nat} {v : Int32} (hr0 : pw h ≤ r0) (hb : b = 176 ∨ b = 177) : RX nh ns h pw L T R (xa_up S b r0 v) := by
  have e : ∀ a, a ≠ 176 → a ≠ 177 → xa_up S b r0 v a = S a := fun a h1 h2 => up_o (by omega)
  refine ⟨hX.rx_c, by rw [rx_l_C (fun a ha => e a (by omega) (by omega))]; exact hX.rx_l, by rw [rx_g_C (fun _ _ _ => rfl) (fun a ha => e a (by omega) (by omega))]; exact hX.rx_g, by rw [rx_h_C (fun _ _ _ => rfl) (fun a ha => e a (by omega) (by omega))]; exact hX.rx_h, by rw [rx_s_C (fun _ _ _ => rfl) (fun a ha => e a (by omega) (by omega))]; exact hX.rx_s, by rw [rx_r_C (fun _ _ _ => rfl) (fun a ha => e a (by omega) (by omega))]; exact hX.rx_r, by rw [rx_a_C (fun _ _ _ => rfl) (fun a ha => e a (by omega) (by omega))]; exact hX.rx_a, hX.rx_b, by rw [rx_w_C (fun a ha => e a (by omega) (by omega))]; exact hX.rx_w, ?_, by rw [xm_wf_C (fun a ha => e a (by omega) (by omega))]; exact hX.xm_wf, by rw [iv_h_C (fun a ha => e a (by omega) (by omega))]; exact hX.iv_h, by rw [iv_s_C (fun a ha => e a (by omega) (by omega))]; exact hX.iv_s, by rw [iv_r_C (fun a ha => e a (by omega) (by omega))]; exact hX.iv_r, by rw [iv_0_S (by omega)]; exact hX.iv_0, by rw [iv_g_C (fun a ha => e a (by omega) (by omega))]; exact hX.iv_g, hX.rx_k, by rw [iv_e_C (fun a ha => e a (by omega) (by omega))]; exact hX.iv_e⟩
  intro i hi
  have q := hX.rx_p i hi
  have m := pw_le hX h (Nat.le_refl _) (i + 1) (by omega)
  have s := q.1
  have el : ∀ z r, r < r0 → (lrow T S i z r → lrow T (xa_up S b r0 v) i z r) := fun z r hr w => by
    refine ⟨by rw [up_k (by omega)]; exact w.1, by rw [up_k (by omega)]; exact w.2.1, w.2.2.1, lr_row ⟨fun a h1 _ k _ => by rw [e a (by omega) (by omega)], fun a h1 s _ => by rw [e a (by omega) (by omega)]⟩ w.2.2.2⟩
  rw [e 139 (by decide) (by decide), e 137 (by decide) (by decide)]
  refine ⟨q.1, q.2.1, fun g => el _ _ ?_ (q.2.2.1 g), fun g1 g2 => el _ _ ?_ (q.2.2.2 g1 g2)⟩
  · rw [if_pos g] at s; omega
  · rw [if_pos (show ¬ S 139 i = 0 ∧ lne T (l2 R i) = true from ⟨g1, g2⟩)] at s; omega
/-- host h is done -/
theorem RX_next {nh ns h : Nat} {pw : Nat → Nat} {L : List Nat} {T : xa_AH} {R : xa_AR} {S : xa_AH} (hX : RX nh ns h pw L T R S) (hh : h < nh) (nl : S 137 h = 0) (ha : lne T (lt R h) = true → lrow T S h (lt R h) (pw h)) (hb : ¬ S 139 h = 0 → lne T (l2 R h) = true → lrow T S h (l2 R h) (pw h + (if lne T (lt R h) = true then 1 else 0))) : RX nh ns (h + 1) (fun i => if i ≤ h then pw i else pw h + (if lne T (lt R h) = true then 1 else 0) + (if ¬ S 139 h = 0 ∧ lne T (l2 R h) = true then 1 else 0)) L T R S := by
  refine ⟨hX.rx_c, hX.rx_l, hX.rx_g, hX.rx_h, hX.rx_s, hX.rx_r, hX.rx_a, hX.rx_b, hX.rx_w, ?_, hX.xm_wf, hX.iv_h, hX.iv_s, hX.iv_r, hX.iv_0, hX.iv_g, ⟨by omega, ?_⟩, hX.iv_e⟩
  · intro i hi
    by_cases e : i = h
    · subst e
      simp only [Nat.le_refl, if_true]
      rw [if_neg (show ¬ i + 1 ≤ i by omega)]
      exact ⟨rfl, nl, ha, hb⟩
    · have q := hX.rx_p i (by omega)
      simp only [show i ≤ h by omega, show i + 1 ≤ h by omega, if_true]
      exact q
  · simp only [Nat.zero_le, if_true]; exact hX.k_p0
