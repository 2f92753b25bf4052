theorem upr_o {R : xa_AR} {a k x y : Nat} {v : Option Nat} (n : y ≠ k ∨ x ≠ a) : xa_upr R a k v x y = R x y := by
  unfold xa_upr; rw [if_neg]; omega
theorem upr_s {R : xa_AR} {a k : Nat} {v : Option Nat} : xa_upr R a k v a k = v := by simp [xa_upr]
theorem cs_h_10 {L : List Nat} {R : xa_AR} {a x : Nat} {v : Option Nat} (h : cs_h L R x) : cs_h L (xa_upr R a 10 v) x := by
  refine ⟨h.1, fun q hq => ?_⟩
  have n : q.2.1 ≠ 10 := (by decide : ∀ q ∈ cs_tab, q.2.1 ≠ 10) q hq
  rw [upr_o (Or.inl n)]; exact h.2 q hq
theorem cs_l_10 {L : List Nat} {R : xa_AR} {a x : Nat} {v : Option Nat} (h : cs_l L R x) : cs_l L (xa_upr R a 10 v) x := by
  refine ⟨h.1, h.2.1, fun q hq => ?_⟩
  have n : q.1 ≠ 10 := (by decide : ∀ q ∈ cl_tab, q.1 ≠ 10) q hq
  rw [upr_o (Or.inl n)]; exact h.2.2 q hq
theorem rx_setpx {nh ns k : Nat} {pw : Nat → Nat} {L : List Nat} {T : xa_AH} {R : xa_AR} {S : xa_AH} (hX : RX nh ns k pw L T R S) {h j : Nat} (hh : h < nh) (hj : j < nh) (ha : ¬ S 136 h = 1) : RX nh ns k pw L T (xa_upr R (ci h 0) 10 (some (ci j 0))) S := by
  have e1 : lt (xa_upr R (ci h 0) 10 (some (ci j 0))) = lt R := by funext x; unfold lt; rw [upr_o (Or.inl (by decide))]
  have e2 : l2 (xa_upr R (ci h 0) 10 (some (ci j 0))) = l2 R := by funext x; unfold l2; rw [upr_o (Or.inl (by decide))]
  have e3 : wh (xa_upr R (ci h 0) 10 (some (ci j 0))) = wh R := by funext x; unfold wh; rw [upr_o (Or.inl (by decide))]
  have e4 : w2 (xa_upr R (ci h 0) 10 (some (ci j 0))) = w2 R := by funext x; unfold w2; rw [upr_o (Or.inl (by decide))]
  refine ⟨?_, ?_, hX.rx_g, ?_, ?_, hX.rx_r, hX.rx_a, hX.rx_b, ?_, ?_, hX.xm_wf, hX.iv_h, hX.iv_s, hX.iv_r, hX.iv_0, hX.iv_g, hX.rx_k, hX.iv_e⟩
  · have q := hX.rx_c
    refine ⟨q.1, q.2.1, q.2.2.1, by rw [upr_o (Or.inl (by decide))]; exact q.2.2.2.1, by rw [upr_o (Or.inl (by decide))]; exact q.2.2.2.2.1, fun x hx => ⟨cs_h_10 (hX.hS hx), ?_⟩, fun x hx => ⟨hX.sM hx, ?_⟩, fun a y b g => ?_, hX.c_nh, hX.c_ns, hX.c_ok⟩
    · rw [upr_o (Or.inr (ci_ne (by decide) (by decide) (by decide)))]; exact hX.hA hx
    · rw [upr_o (Or.inr (ci_ne (by decide) (by decide) (by decide)))]; exact hX.sA hx
    · unfold xa_upr at g
      split at g
      · rw [← Option.some.inj g]; exact (hX.hS hj).1 0 (by decide)
      · exact hX.c_cl a y b g
  · intro x hx
    have q := hX.rx_l x hx
    rw [e1, e2, e3, e4]
    refine ⟨by rw [upr_o (Or.inl (by decide))]; exact q.1, cs_l_10 q.2.1, q.2.2.1, q.2.2.2.1, fun g => ?_, q.2.2.2.2.2⟩
    have w := q.2.2.2.2.1 g
    rw [upr_o (Or.inl (by decide)), upr_o (Or.inl (by decide)), upr_o (Or.inl (by decide))]
    exact ⟨w.1, w.2.1, w.2.2.1, w.2.2.2.1, cs_l_10 w.2.2.2.2.1, cs_l_10 w.2.2.2.2.2.1, cs_l_10 w.2.2.2.2.2.2.1, w.2.2.2.2.2.2.2⟩
  · intro x hx
    have q := hX.rx_h x hx
    rw [upr_o (y := 11) (Or.inl (by decide))]
    refine ⟨q.1, q.2.1, q.2.2.1, q.2.2.2.1, q.2.2.2.2.1, q.2.2.2.2.2.1, q.2.2.2.2.2.2.1, q.2.2.2.2.2.2.2.1, q.2.2.2.2.2.2.2.2.1, q.2.2.2.2.2.2.2.2.2.1, q.2.2.2.2.2.2.2.2.2.2.1, q.2.2.2.2.2.2.2.2.2.2.2.1, q.2.2.2.2.2.2.2.2.2.2.2.2.1, q.2.2.2.2.2.2.2.2.2.2.2.2.2.1, ?_, ?_⟩
    · intro g
      have e : x ≠ h := fun e => ha (e ▸ g)
      rw [upr_o (Or.inr (fun c => e (ci_i.mp c)))]
      exact q.2.2.2.2.2.2.2.2.2.2.2.2.2.2.1 g
    · intro a
      by_cases e : x = h
      · subst e
        rw [upr_s]
        intro g
        exact ⟨j, hj, (Option.some.inj g).symm⟩
      · rw [upr_o (Or.inr (fun c => e (ci_i.mp c)))]
        exact q.2.2.2.2.2.2.2.2.2.2.2.2.2.2.2 a
  · intro x hx
    have q := hX.rx_s x hx
    rw [upr_o (Or.inl (by decide))]
    exact q
  · unfold rx_w
    rw [e3, e4]; exact hX.rx_w
  · unfold rx_p
    rw [e1, e2]; exact hX.rx_p
set_option maxHeartbeats 200000 in
theorem rx_sleep {nh ns k : Nat} {pw : Nat → Nat} {L : List Nat} {T : xa_AH} {R : xa_AR} {S : xa_AH} (hX : RX nh ns k pw L T R S) {h j : Nat} (hh : h < nh) (hj : j < nh) (ha : S 136 h = 2) (h0 : S 137 h = 0) (hj0 : S 137 j = 0) (hnet : S 131 j = S 131 h) (hR : R (ci h 0) 10 = some (ci j 0)) : RX nh ns k pw L (xa_up T (ci h 0) 8 1) R (xa_up (xa_up S 136 h 1) 141 h (nI j)) := by
  have n12 := hX.n12
  refine ⟨hX.rx_c, by rw [rx_l_S (by decide), rx_l_S (by decide)]; exact hX.rx_l, by rw [rx_g_S (by decide), rx_g_S (by decide), rx_g_T (by decide) (by decide)]; exact hX.rx_g, ?_, by rw [rx_s_S (by decide), rx_s_S (by decide), rx_s_T (by decide) (by decide)]; exact hX.rx_s, by rw [rx_r_S (by decide), rx_r_S (by decide), rx_r_T (by decide) (by decide)]; exact hX.rx_r, by rw [rx_a_S (by decide), rx_a_S (by decide), rx_a_T (by decide) (by decide)]; exact hX.rx_a, by rw [rx_b_T (by decide) (by decide)]; exact hX.rx_b, ?_, by rw [rx_p_S (by decide), rx_p_S (by decide), rx_p_T hX.rx_l hX.rx_k (nlc (by decide) (by decide))]; exact hX.rx_p, (xm_wf_up (xm_wf_up hX.xm_wf rfl) rfl), ?_, by rw [iv_s_S (by decide), iv_s_S (by decide)]; exact hX.iv_s, by rw [iv_r_S (by decide), iv_r_S (by decide)]; exact hX.iv_r, ?_, by rw [iv_g_S (by decide), iv_g_S (by decide)]; exact hX.iv_g, hX.rx_k, by rw [iv_e_S (by decide), iv_e_S (by decide)]; exact hX.iv_e⟩
  · intro x hx
    have q := hX.rx_h x hx
    simp only [up_ci (r := 0) (q := 0) (by decide) (by decide), up_ci (r := 0) (q := 80) (by decide) (by decide), xs, up_S, Nat.reduceEqDiff, true_and, false_and, and_false, if_false, and_true, reduceIte] at q ⊢
    refine ⟨q.1, q.2.1, q.2.2.1, q.2.2.2.1, q.2.2.2.2.1, ?_, q.2.2.2.2.2.2.1, q.2.2.2.2.2.2.2.1, q.2.2.2.2.2.2.2.2.1, q.2.2.2.2.2.2.2.2.2.1, q.2.2.2.2.2.2.2.2.2.2.1, q.2.2.2.2.2.2.2.2.2.2.2.1, q.2.2.2.2.2.2.2.2.2.2.2.2.1, q.2.2.2.2.2.2.2.2.2.2.2.2.2.1, ?_, q.2.2.2.2.2.2.2.2.2.2.2.2.2.2.2⟩
    · by_cases e : x = h
      · subst e; simp [h0]
      · simp only [e, if_false]; exact q.2.2.2.2.2.1
    · by_cases e : x = h
      · subst e; simp only [if_true]; rw [xc_n (by omega)]; exact fun _ => hR
      · simp only [e, if_false]; exact q.2.2.2.2.2.2.2.2.2.2.2.2.2.2.1
  · rw [rx_w_S (by decide)]
    have e : rx_w nh T R (xa_up S 136 h 1) := by
      intro x hx
      have q := hX.rx_w x hx
      refine ⟨q.1, fun h1 h2 => ?_⟩
      rw [lr_S (by decide), lr_S (by decide)]
      refine q.2 h1 ?_
      rw [up_S] at h2
      by_cases e : x = h
      · subst e; rw [ha]; decide
      · simpa [e] using h2
    have hl : rx_l nh L R (xa_up S 136 h 1) := by rw [rx_l_S (by decide)]; exact hX.rx_l
    rw [rx_w_T hl (nlc (by decide) (by decide))]; exact e
  · intro x hx
    have q := hX.iv_h x hx
    simp only [xs, up_S, Nat.reduceEqDiff, true_and, false_and, and_false, if_false, and_true, reduceIte] at q ⊢
    refine ⟨by split <;> first | exact Or.inr (Or.inl rfl) | exact q.1, ?_, q.2.2.1, q.2.2.2.1, q.2.2.2.2.1, ?_, q.2.2.2.2.2.2.1, q.2.2.2.2.2.2.2.1, q.2.2.2.2.2.2.2.2.1, q.2.2.2.2.2.2.2.2.2⟩
    · by_cases e : x = h
      · subst e; exact Or.inl h0
      · simp only [e, if_false]; exact q.2.1
    · by_cases e : x = h
      · subst e; simp only [if_true]; rw [xc_n (by omega)]; exact fun _ => ⟨vp_in_nI hj (by omega), hj0, hnet⟩
      · simp only [e, if_false]; exact q.2.2.2.2.2.1
  · have q := hX.iv_0
    refine ⟨fun x h1 h2 => ?_, q.2.1, q.2.2.1, q.2.2.2.1, q.2.2.2.2⟩
    have g := q.1 x h1 h2
    have e : ¬ x = h := by omega
    simp only [up_S, Nat.reduceEqDiff, true_and, false_and, and_false, if_false, and_true, reduceIte, e] at g ⊢
    exact g
set_option maxHeartbeats 200000 in
theorem rx_leaveF {nh ns k : Nat} {pw : Nat → Nat} {L : List Nat} {T : xa_AH} {R : xa_AR} {S : xa_AH} (hX : RX nh ns k pw L T R S) {h : Nat} (hh : h < nh) (hk : k = 0) (ha : S 136 h = 2) (hs : ∀ s, s < ns → xc (S 146 s) = h → S 151 s = 0) (hp : ∀ x, x < nh → S 136 x = 1 → ¬ xc (S 141 x) = h) : RX nh ns k pw L (xa_up T (ci h 0) 8 3) R (xa_up S 137 h 1) := by
  refine ⟨hX.rx_c, by rw [rx_l_S (by decide)]; exact hX.rx_l, by rw [rx_g_S (by decide), rx_g_T (by decide) (by decide)]; exact hX.rx_g, ?_, by rw [rx_s_S (by decide), rx_s_T (by decide) (by decide)]; exact hX.rx_s, by rw [rx_r_S (by decide), rx_r_T (by decide) (by decide)]; exact hX.rx_r, by rw [rx_a_S (by decide), rx_a_T (by decide) (by decide)]; exact hX.rx_a, by rw [rx_b_T (by decide) (by decide)]; exact hX.rx_b, by rw [rx_w_S (by decide), rx_w_T hX.rx_l (nlc (by decide) (by decide))]; exact hX.rx_w, ?_, (xm_wf_up hX.xm_wf rfl), ?_, ?_, by rw [iv_r_S (by decide)]; exact hX.iv_r, ?_, by rw [iv_g_S (by decide)]; exact hX.iv_g, hX.rx_k, by rw [iv_e_S (by decide)]; exact hX.iv_e⟩
  · intro x hx
    have q := hX.rx_h x hx
    simp only [up_ci (r := 0) (q := 0) (by decide) (by decide), up_ci (r := 0) (q := 80) (by decide) (by decide), xs, up_S, Nat.reduceEqDiff, true_and, false_and, and_false, if_false, and_true, reduceIte] at q ⊢
    refine ⟨q.1, q.2.1, q.2.2.1, q.2.2.2.1, q.2.2.2.2.1, ?_, q.2.2.2.2.2.2.1, q.2.2.2.2.2.2.2.1, q.2.2.2.2.2.2.2.2.1, q.2.2.2.2.2.2.2.2.2.1, q.2.2.2.2.2.2.2.2.2.2.1, q.2.2.2.2.2.2.2.2.2.2.2.1, q.2.2.2.2.2.2.2.2.2.2.2.2.1, q.2.2.2.2.2.2.2.2.2.2.2.2.2.1, q.2.2.2.2.2.2.2.2.2.2.2.2.2.2.1, q.2.2.2.2.2.2.2.2.2.2.2.2.2.2.2⟩
    · by_cases e : x = h
      · subst e; simp
      · simp only [e, if_false]; exact q.2.2.2.2.2.1
  · subst hk; intro i hi; omega
  · intro x hx
    have q := hX.iv_h x hx
    simp only [xs, up_S, Nat.reduceEqDiff, true_and, false_and, and_false, if_false, and_true, reduceIte] at q ⊢
    refine ⟨q.1, ?_, q.2.2.1, q.2.2.2.1, q.2.2.2.2.1, ?_, q.2.2.2.2.2.2.1, q.2.2.2.2.2.2.2.1, q.2.2.2.2.2.2.2.2.1, q.2.2.2.2.2.2.2.2.2⟩
    · by_cases e : x = h
      · subst e; simp only [if_true]; exact Or.inr ⟨trivial, ha⟩
      · simp only [e, if_false]; exact q.2.1
    · intro g
      obtain ⟨p1, p2, p3⟩ := q.2.2.2.2.2.1 g
      exact ⟨p1, by rw [if_neg (hp x hx g)]; exact p2, p3⟩
  · intro x hx
    have q := hX.iv_s x hx
    simp only [xs, up_S, Nat.reduceEqDiff, true_and, false_and, and_false, if_false, and_true, reduceIte] at q ⊢
    refine ⟨q.1, ?_, q.2.2.1, q.2.2.2.1, q.2.2.2.2.1, q.2.2.2.2.2.1, q.2.2.2.2.2.2.1, q.2.2.2.2.2.2.2.1, q.2.2.2.2.2.2.2.2⟩
    · intro g
      by_cases e : xc (S 146 x) = h
      · exact hs x hx e
      · rw [if_neg e] at g; exact q.2.1 g
  · have q := hX.iv_0
    refine ⟨fun x h1 h2 => ?_, q.2.1, q.2.2.1, q.2.2.2.1, q.2.2.2.2⟩
    have g := q.1 x h1 h2
    have e : ¬ x = h := by omega
    simp only [up_S, Nat.reduceEqDiff, true_and, false_and, and_false, if_false, and_true, reduceIte, e] at g ⊢
    exact g
theorem rx_rouse {nh ns k : Nat} {pw : Nat → Nat} {L : List Nat} {T : xa_AH} {R : xa_AR} {S : xa_AH} (hX : RX nh ns k pw L T R S) {h : Nat} (hh : h < nh) (ha : S 136 h = 1) : RX nh ns k pw L (xa_up (xa_up T (ci h 0) 8 2) (ci 0 129) 11 (S 130 42 + 1)) R (xa_up (xm_wakes S h) 130 42 (S 130 42 + 1)) := rx_cwoken (rx_wake hX hh ha)
