theorem up_comm {T : xa_AH} {a k b j : Nat} {v w : Int32} (n : a ≠ b) : xa_up (xa_up T a k v) b j w = xa_up (xa_up T b j w) a k v := by
  funext x y; simp only [xa_up]
  by_cases h1 : x = b ∧ y = j
  · rw [if_pos h1, if_neg (by omega), if_pos h1]
  · rw [if_neg h1]; by_cases h2 : x = a ∧ y = k
    · rw [if_pos h2, if_pos h2]
    · rw [if_neg h2, if_neg h2, if_neg h1]
theorem lrow_S {T S : xa_AH} {i q r a j : Nat} {v : Int32} (ha : a < 176) : lrow T (xa_up S a j v) i q r = lrow T S i q r := by
  have e1 : xa_up S a j v 176 = S 176 := up_o (by omega)
  have e2 : xa_up S a j v 177 = S 177 := up_o (by omega)
  simp only [lrow, e1, e2, lr_S (show a < 179 by omega)]
theorem lrow_clr {T S : xa_AH} {i q r r2 : Nat} (n : r ≠ r2) : lrow T (xm_clr r2 S) i q r = lrow T S i q r := by
  simp only [lrow, clr_a (show 176 < 179 by decide), clr_a (show 177 < 179 by decide), lr_clr n]
theorem rx_w_C {nh : Nat} {T : xa_AH} {R : xa_AR} {S S2 : xa_AH} (hS : ∀ a, (a = 136 ∨ a = 139 ∨ 179 ≤ a) → S2 a = S a) : rx_w nh T R S2 = rx_w nh T R S := by
  simp only [rx_w, rowc, lr, hS 136 (by decide), hS 139 (by decide), hS 179 (by decide), hS 180 (by decide), hS 181 (by decide), hS 182 (by decide), hS 183 (by decide), hS 184 (by decide), hS 185 (by decide), hS 186 (by decide), hS 187 (by decide), hS 188 (by decide), hS 189 (by decide), hS 190 (by decide)]
theorem rx_p_C {k : Nat} {pw : Nat → Nat} {T : xa_AH} {R : xa_AR} {S S2 : xa_AH} (hS : ∀ a, (a = 137 ∨ a = 139 ∨ 176 ≤ a) → S2 a = S a) : rx_p k pw T R S2 = rx_p k pw T R S := by
  simp only [rx_p, lrow, lr, hS 137 (by decide), hS 139 (by decide), hS 176 (by decide), hS 177 (by decide), hS 179 (by decide), hS 180 (by decide), hS 181 (by decide), hS 182 (by decide), hS 183 (by decide), hS 184 (by decide), hS 185 (by decide), hS 186 (by decide), hS 187 (by decide), hS 188 (by decide), hS 189 (by decide), hS 190 (by decide)]
theorem RX.pwb {nh ns k : Nat} {pw : Nat → Nat} {L : List Nat} {T : xa_AH} {R : xa_AR} {S : xa_AH} (hX : RX nh ns k pw L T R S) : ∀ i, i ≤ k → pw i ≤ 2 * i
  | 0, _ => by rw [hX.k_p0]; exact Nat.le_refl 0
  | i + 1, hi => by
    have h1 := RX.pwb hX i (by omega)
    have h2 := hX.p_s (i := i) (by omega)
    rw [h2]; split <;> split <;> omega
set_option maxHeartbeats 200000 in
theorem rx_gone0 {nh ns k : Nat} {pw : Nat → Nat} {L : List Nat} {T : xa_AH} {R : xa_AR} {S : xa_AH} (hX : RX nh ns k pw L T R S) {h : Nat} (hh : h < nh) : RX nh ns k pw L (xa_up (xa_up T (ci h 0) 8 0) (ci h 0) 9 0) R (xa_up (xa_up (xa_up (xa_up S 136 h 0) 137 h 0) 138 h 0) 141 h (-1)) := by
  refine ⟨hX.rx_c, by rw [rx_l_S (by decide), rx_l_S (by decide), rx_l_S (by decide), rx_l_S (by decide)]; exact hX.rx_l, by rw [rx_g_S (by decide), rx_g_S (by decide), rx_g_S (by decide), rx_g_S (by decide), rx_g_T (by decide) (by decide), rx_g_T (by decide) (by decide)]; exact hX.rx_g, ?_, by rw [rx_s_S (by decide), rx_s_S (by decide), rx_s_S (by decide), rx_s_S (by decide), rx_s_T (by decide) (by decide), rx_s_T (by decide) (by decide)]; exact hX.rx_s, by rw [rx_r_S (by decide), rx_r_S (by decide), rx_r_S (by decide), rx_r_S (by decide), rx_r_T (by decide) (by decide), rx_r_T (by decide) (by decide)]; exact hX.rx_r, by rw [rx_a_S (by decide), rx_a_S (by decide), rx_a_S (by decide), rx_a_S (by decide), rx_a_T (by decide) (by decide), rx_a_T (by decide) (by decide)]; exact hX.rx_a, by rw [rx_b_T (by decide) (by decide), rx_b_T (by decide) (by decide)]; exact hX.rx_b, ?_, ?_, (xm_wf_up (xm_wf_up (xm_wf_up (xm_wf_up hX.xm_wf rfl) rfl) rfl) rfl), ?_, ?_, by rw [iv_r_S (by decide), iv_r_S (by decide), iv_r_S (by decide), iv_r_S (by decide)]; exact hX.iv_r, ?_, by rw [iv_g_S (by decide), iv_g_S (by decide), iv_g_S (by decide), iv_g_S (by decide)]; exact hX.iv_g, hX.rx_k, by rw [iv_e_S (by decide), iv_e_S (by decide), iv_e_S (by decide), iv_e_S (by decide)]; exact hX.iv_e⟩
  · intro x hx
    have q := hX.rx_h x hx
    simp only [up_ci (r := 0) (q := 0) (by decide) (by decide), up_ci (r := 0) (q := 80) (by decide) (by decide), xs, up_S, Nat.reduceEqDiff, true_and, false_and, and_false, if_false, and_true, reduceIte] at q ⊢
    refine ⟨q.1, q.2.1, q.2.2.1, q.2.2.2.1, q.2.2.2.2.1, ?_, by split <;> first | rfl | exact q.2.2.2.2.2.2.1, q.2.2.2.2.2.2.2.1, q.2.2.2.2.2.2.2.2.1, q.2.2.2.2.2.2.2.2.2.1, q.2.2.2.2.2.2.2.2.2.2.1, q.2.2.2.2.2.2.2.2.2.2.2.1, q.2.2.2.2.2.2.2.2.2.2.2.2.1, q.2.2.2.2.2.2.2.2.2.2.2.2.2.1, ?_, q.2.2.2.2.2.2.2.2.2.2.2.2.2.2.2⟩
    · by_cases e : x = h
      · subst e; simp
      · simp only [e, if_false]; exact q.2.2.2.2.2.1
    · by_cases e : x = h
      · subst e; simp
      · simp only [e, if_false]; exact q.2.2.2.2.2.2.2.2.2.2.2.2.2.2.1
  · rw [rx_w_S (by decide), rx_w_S (by decide), rx_w_S (by decide)]
    have e : rx_w nh T R (xa_up S 136 h 0) := by
      intro x hx
      have q := hX.rx_w x hx
      refine ⟨fun g => ?_, fun h1 h2 => ?_⟩
      · exact q.1 g
      · rw [lr_S (by decide), lr_S (by decide)]
        refine q.2 h1 ?_
        rw [up_S] at h2
        by_cases e : x = h
        · subst e; simp at h2
        · simpa [e] using h2
    have hl : rx_l nh L R (xa_up S 136 h 0) := by rw [rx_l_S (by decide)]; exact hX.rx_l
    rw [rx_w_T hl (nlc (by decide) (by decide)), rx_w_T hl (nlc (by decide) (by decide))]; exact e
  · rw [rx_p_S (by decide), rx_p_S (by decide)]
    have e : rx_p k pw T R (xa_up S 137 h 0) := by
      intro i hi
      have q := hX.rx_p i hi
      have e9 : xa_up S 137 h 0 139 = S 139 := up_o (by decide)
      refine ⟨by rw [e9]; exact q.1, ?_, fun g => by rw [lrow_S (by decide)]; exact q.2.2.1 g, fun g1 g2 => by rw [lrow_S (by decide)]; rw [e9] at g1; exact q.2.2.2 g1 g2⟩
      rw [up_S]; split
      · rfl
      · exact q.2.1
    have c : xa_up (xa_up S 136 h 0) 137 h 0 = xa_up (xa_up S 137 h 0) 136 h 0 := up_comm (by decide)
    rw [c, rx_p_S (by decide), rx_p_T (S := xa_up S 137 h 0) (by rw [rx_l_S (by decide)]; exact hX.rx_l) hX.rx_k (nlc (by decide) (by decide)), rx_p_T (S := xa_up S 137 h 0) (by rw [rx_l_S (by decide)]; exact hX.rx_l) hX.rx_k (nlc (by decide) (by decide))]
    exact e
  · intro x hx
    have q := hX.iv_h x hx
    simp only [xs, up_S, Nat.reduceEqDiff, true_and, false_and, and_false, if_false, and_true, reduceIte] at q ⊢
    refine ⟨by split <;> first | exact Or.inl rfl | exact q.1, ?_, q.2.2.1, q.2.2.2.1, q.2.2.2.2.1, ?_, by split <;> first | exact Or.inl rfl | exact q.2.2.2.2.2.2.1, q.2.2.2.2.2.2.2.1, q.2.2.2.2.2.2.2.2.1, q.2.2.2.2.2.2.2.2.2⟩
    · by_cases e : x = h
      · subst e; simp
      · simp only [e, if_false]; exact q.2.1
    · by_cases e : x = h
      · subst e; simp
      · simp only [e, if_false]
        intro g
        obtain ⟨p1, p2, p3⟩ := q.2.2.2.2.2.1 g
        exact ⟨p1, by split <;> first | rfl | exact p2, p3⟩
  · intro x hx
    have q := hX.iv_s x hx
    simp only [xs, up_S, Nat.reduceEqDiff, true_and, false_and, and_false, if_false, and_true, reduceIte] at q ⊢
    refine ⟨q.1, fun g => q.2.1 (by intro c; apply g; split <;> first | rfl | exact c), q.2.2.1, q.2.2.2.1, q.2.2.2.2.1, q.2.2.2.2.2.1, q.2.2.2.2.2.2.1, q.2.2.2.2.2.2.2.1, q.2.2.2.2.2.2.2.2⟩
  · have q := hX.iv_0
    refine ⟨fun x h1 h2 => ?_, q.2.1, q.2.2.1, q.2.2.2.1, q.2.2.2.2⟩
    have g := q.1 x h1 h2
    have e : ¬ x = h := by omega
    simp only [up_S, Nat.reduceEqDiff, true_and, false_and, and_false, if_false, and_true, reduceIte, e] at g ⊢
    exact g
theorem emp_e (h : Nat) (S : xa_AH) (x y : Nat) : xm_emp h S x y = if x = 158 ∧ 32 * h ≤ y ∧ y < 32 * h + 32 then 0 else if x = 163 ∧ 32 * h ≤ y ∧ y < 32 * h + 32 then -1 else S x y := by
  have e : ∀ n S x y, xa_lp (xm_emp1 h) n S x y = if x = 158 ∧ 32 * h ≤ y ∧ y < 32 * h + n then 0 else if x = 163 ∧ 32 * h ≤ y ∧ y < 32 * h + n then -1 else S x y := by
    intro n
    induction n with
    | zero => intro S x y; rw [xa_lp, if_neg (by omega), if_neg (by omega)]
    | succ n ih =>
      intro S x y
      rw [xa_lp]
      show xa_up (xa_up (xa_lp (xm_emp1 h) n S) 158 (32 * h + n) 0) 163 (32 * h + n) (-1) x y = _
      rw [up_S, up_S, ih S x y]
      by_cases h1 : x = 163 ∧ y = 32 * h + n
      · rw [if_pos h1, if_neg (by omega), if_pos (by omega)]
      · rw [if_neg h1]
        by_cases h2 : x = 158 ∧ y = 32 * h + n
        · rw [if_pos h2, if_pos (by omega)]
        · rw [if_neg h2]
          by_cases h3 : x = 158 ∧ 32 * h ≤ y ∧ y < 32 * h + n
          · rw [if_pos h3, if_pos (by omega)]
          · rw [if_neg h3, if_neg (show ¬ (x = 158 ∧ 32 * h ≤ y ∧ y < 32 * h + (n + 1)) by omega)]
            by_cases h4 : x = 163 ∧ 32 * h ≤ y ∧ y < 32 * h + n
            · rw [if_pos h4, if_pos (by omega)]
            · rw [if_neg h4, if_neg (by omega)]
  exact e 32 S x y
theorem rx_emp {nh ns k : Nat} {pw : Nat → Nat} {L : List Nat} {T : xa_AH} {R : xa_AR} {S : xa_AH} (hX : RX nh ns k pw L T R S) {h : Nat} (hh : h < nh) : RX nh ns k pw L (xa_up (xa_up T (ci h 1) 4 0) (ci h 9) 1 0) R (xm_emp h S) := by
  have hS : ∀ a, a ≠ 158 → a ≠ 163 → xm_emp h S a = S a := fun a h1 h2 => by funext y; rw [emp_e, if_neg (by omega), if_neg (by omega)]
  have hT : ∀ r, r < 256 → r ≠ 1 → r ≠ 9 → ∀ x, xa_up (xa_up T (ci h 1) 4 0) (ci h 9) 1 0 (ci x r) = T (ci x r) := fun r h0 h1 h2 x => by rw [up_o (ci_ne h0 (by decide) h2), up_o (ci_ne h0 (by decide) h1)]
  refine ⟨hX.rx_c, by rw [rx_l_C (fun a ha => hS a (by omega) (by omega))]; exact hX.rx_l, by rw [rx_g_C (fun r hr h => hT r (by omega) (by omega) (by omega) h) (fun a ha => hS a (by omega) (by omega))]; exact hX.rx_g, by rw [rx_h_C (fun r hr h => hT r (by omega) (by omega) (by omega) h) (fun a ha => hS a (by omega) (by omega))]; exact hX.rx_h, by rw [rx_s_C (fun r hr h => hT r (by omega) (by omega) (by omega) h) (fun a ha => hS a (by omega) (by omega))]; exact hX.rx_s, ?_, by rw [rx_a_C (fun r hr h => hT r (by omega) (by omega) (by omega) h) (fun a ha => hS a (by omega) (by omega))]; exact hX.rx_a, by rw [rx_b_C (fun r hr h => hT r (by omega) (by omega) (by omega) h)]; exact hX.rx_b, by rw [rx_w_C (fun a ha => hS a (by omega) (by omega)), rx_w_T hX.rx_l (nlc (by decide) (by decide)), rx_w_T hX.rx_l (nlc (by decide) (by decide))]; exact hX.rx_w, by rw [rx_p_C (fun a ha => hS a (by omega) (by omega)), rx_p_T hX.rx_l hX.rx_k (nlc (by decide) (by decide)), rx_p_T hX.rx_l hX.rx_k (nlc (by decide) (by decide))]; exact hX.rx_p, by rw [xm_wf_C (fun a ha => hS a (by omega) (by omega))]; exact hX.xm_wf, by rw [iv_h_C (fun a ha => hS a (by omega) (by omega))]; exact hX.iv_h, by rw [iv_s_C (fun a ha => hS a (by omega) (by omega))]; exact hX.iv_s, ?_, ?_, by rw [iv_g_C (fun a ha => hS a (by omega) (by omega))]; exact hX.iv_g, hX.rx_k, ?_⟩
  · intro x hx y hy
    have q := hX.rx_r x hx y hy
    rw [emp_e h S 158, emp_e h S 163, hS 159 (by decide) (by decide), hS 160 (by decide) (by decide), hS 161 (by decide) (by decide), hS 162 (by decide) (by decide)]
    simp only [up_ci (r := 1) (q := 1) (by decide) (by decide), up_ci (r := 1) (q := 2) (by decide) (by decide), up_ci (r := 1) (q := 3) (by decide) (by decide), up_ci (r := 1) (q := 4) (by decide) (by decide), up_ci (r := 1) (q := 5) (by decide) (by decide), up_ci (r := 1) (q := 9) (by decide) (by decide), up_ci (r := 1) (q := 10) (by decide) (by decide), up_ci (r := 9) (q := 1) (by decide) (by decide), up_ci (r := 9) (q := 2) (by decide) (by decide), up_ci (r := 9) (q := 3) (by decide) (by decide), up_ci (r := 9) (q := 4) (by decide) (by decide), up_ci (r := 9) (q := 5) (by decide) (by decide), up_ci (r := 9) (q := 9) (by decide) (by decide), up_ci (r := 9) (q := 10) (by decide) (by decide), up_S, Nat.reduceEqDiff, true_and, false_and, and_false, if_false, and_true, reduceIte]
    by_cases e : x = h
    · subst e
      have e1 : 32 * x ≤ 32 * x + y ∧ 32 * x + y < 32 * x + 32 := by omega
      simp only [e1, and_self, if_true]
      exact ⟨by rw [b_0]; simp, q.2.1, q.2.2.1, q.2.2.2.1, q.2.2.2.2.1, by rw [b_0]; simp, fun g => absurd trivial g⟩
    · have e1 : ¬ (32 * h ≤ 32 * x + y ∧ 32 * x + y < 32 * h + 32) := by omega
      simp only [e, e1, if_false]
      exact q
  · intro x hx y hy
    have q := hX.iv_r x hx y hy
    rw [emp_e h S 158, emp_e h S 163, hS 159 (by decide) (by decide), hS 162 (by decide) (by decide)]
    simp only [up_S, Nat.reduceEqDiff, true_and, false_and, and_false, if_false, and_true, reduceIte]
    by_cases e : x = h
    · subst e
      have e1 : 32 * x ≤ 32 * x + y ∧ 32 * x + y < 32 * x + 32 := by omega
      simp only [e1, and_self, if_true]
      exact ⟨fun g => absurd trivial g, q.2.1, fun g => absurd trivial g, fun z hz g => absurd trivial g⟩
    · have e1 : ∀ z, z < 32 → ¬ (32 * h ≤ 32 * x + z ∧ 32 * x + z < 32 * h + 32) := by omega
      simp only [e1 y hy, if_false]
      refine ⟨q.1, q.2.1, q.2.2.1, fun z hz g1 g2 g3 => ?_⟩
      rw [emp_e, if_neg (fun w => e1 z hz w.2), if_neg (fun w => absurd w.1 (by decide))] at g2
      exact q.2.2.2 z hz g1 g2 g3
  · have q := hX.iv_0
    refine ⟨fun x h1 h2 => ?_, fun x h1 h2 y hy => ?_, fun x h1 h2 y hy => ?_, fun x h1 h2 => ?_, fun x h1 h2 => ?_⟩
    · simp only [hS 137 (by decide) (by decide), hS 138 (by decide) (by decide), hS 139 (by decide) (by decide), hS 142 (by decide) (by decide), hS 143 (by decide) (by decide), hS 144 (by decide) (by decide)]; exact q.1 x h1 h2
    · have g := q.2.1 x h1 h2 y hy
      have e1 : ¬ (32 * h ≤ 32 * x + y ∧ 32 * x + y < 32 * h + 32) := by omega
      rw [emp_e h S 158, emp_e h S 163, hS 159 (by decide) (by decide), hS 160 (by decide) (by decide), hS 161 (by decide) (by decide), hS 162 (by decide) (by decide)]
      simp only [e1, and_false, if_false]; exact g
    · simp only [hS 164 (by decide) (by decide), hS 165 (by decide) (by decide), hS 166 (by decide) (by decide)]; exact q.2.2.1 x h1 h2 y hy
    · simp only [rowc, hS 179 (by decide) (by decide), hS 183 (by decide) (by decide), hS 185 (by decide) (by decide), hS 187 (by decide) (by decide)]; exact q.2.2.2.1 x h1 h2
    · simp only [hS 154 (by decide) (by decide), hS 155 (by decide) (by decide), hS 156 (by decide) (by decide)]; exact q.2.2.2.2 x h1 h2
  · intro x hx y hy
    rw [emp_e h S 158, hS 162 (by decide) (by decide), hS 130 (by decide) (by decide)]
    intro g
    split at g
    · exact absurd rfl g
    · rw [if_neg (by omega)] at g; exact hX.ie_le hx hy g
theorem gn1_e (h : Nat) (S : xa_AH) (x y : Nat) : xa_lp (xm_gn1 h) 16 S x y = if x = 164 ∧ 16 * h ≤ y ∧ y < 16 * h + 16 then 0 else S x y := lp_up (f := xm_gn1 h) (a := 164) (c := 16 * h) (v := 0) (fun i S => rfl) 16 S x y
theorem rx_aclr {nh ns k : Nat} {pw : Nat → Nat} {L : List Nat} {T : xa_AH} {R : xa_AR} {S : xa_AH} (hX : RX nh ns k pw L T R S) {h : Nat} (hh : h < nh) : RX nh ns k pw L (xa_up T (ci h 6) 2 0) R (xa_lp (xm_gn1 h) 16 S) := by
  have hS : ∀ a, a ≠ 164 → xa_lp (xm_gn1 h) 16 S a = S a := fun a h1 => by funext y; rw [gn1_e, if_neg (by omega)]
  have hT : ∀ r, r < 256 → r ≠ 6 → ∀ x, xa_up T (ci h 6) 2 0 (ci x r) = T (ci x r) := fun r h0 h1 x => by rw [up_o (ci_ne h0 (by decide) h1)]
  refine ⟨hX.rx_c, by rw [rx_l_C (fun a ha => hS a (by omega))]; exact hX.rx_l, by rw [rx_g_C (fun r hr h => hT r (by omega) (by omega) h) (fun a ha => hS a (by omega))]; exact hX.rx_g, by rw [rx_h_C (fun r hr h => hT r (by omega) (by omega) h) (fun a ha => hS a (by omega))]; exact hX.rx_h, by rw [rx_s_C (fun r hr h => hT r (by omega) (by omega) h) (fun a ha => hS a (by omega))]; exact hX.rx_s, by rw [rx_r_C (fun r hr h => hT r (by omega) (by omega) h) (fun a ha => hS a (by omega))]; exact hX.rx_r, ?_, ?_, by rw [rx_w_C (fun a ha => hS a (by omega)), rx_w_T hX.rx_l (nlc (by decide) (by decide))]; exact hX.rx_w, by rw [rx_p_C (fun a ha => hS a (by omega)), rx_p_T hX.rx_l hX.rx_k (nlc (by decide) (by decide))]; exact hX.rx_p, by rw [xm_wf_C (fun a ha => hS a (by omega))]; exact hX.xm_wf, by rw [iv_h_C (fun a ha => hS a (by omega))]; exact hX.iv_h, by rw [iv_s_C (fun a ha => hS a (by omega))]; exact hX.iv_s, by rw [iv_r_C (fun a ha => hS a (by omega))]; exact hX.iv_r, ?_, by rw [iv_g_C (fun a ha => hS a (by omega))]; exact hX.iv_g, hX.rx_k, by rw [iv_e_C (fun a ha => hS a (by omega))]; exact hX.iv_e⟩
  · intro x hx y hy
    have q := hX.rx_a x hx y hy
    rw [gn1_e, hS 165 (by decide), hS 166 (by decide)]
    simp only [up_ci (r := 6) (q := 6) (by decide) (by decide), up_ci (r := 6) (q := 7) (by decide) (by decide), up_ci (r := 6) (q := 8) (by decide) (by decide), up_S, Nat.reduceEqDiff, true_and, false_and, and_false, if_false, and_true, reduceIte]
    by_cases e : x = h
    · subst e
      have e1 : 16 * x ≤ 16 * x + y ∧ 16 * x + y < 16 * x + 16 := by omega
      simp only [e1, and_self, if_true]
      exact ⟨by rw [b_0]; simp, q.2.1, q.2.2⟩
    · have e1 : ¬ (16 * h ≤ 16 * x + y ∧ 16 * x + y < 16 * h + 16) := by omega
      simp only [e, e1, if_false]
      exact q
  · intro x hx y hy
    have q := hX.b_big x hx y hy
    simp only [up_ci (r := 6) (q := 6) (by decide) (by decide), up_S, Nat.reduceEqDiff, true_and, false_and, and_false, if_false, and_true, reduceIte]
    split
    · exact b_0 y
    · exact q
  · have q := hX.iv_0
    refine ⟨fun x h1 h2 => ?_, fun x h1 h2 y hy => ?_, fun x h1 h2 y hy => ?_, fun x h1 h2 => ?_, fun x h1 h2 => ?_⟩
    · simp only [hS 137 (by decide), hS 138 (by decide), hS 139 (by decide), hS 142 (by decide), hS 143 (by decide), hS 144 (by decide)]; exact q.1 x h1 h2
    · simp only [hS 158 (by decide), hS 159 (by decide), hS 160 (by decide), hS 161 (by decide), hS 162 (by decide), hS 163 (by decide)]; exact q.2.1 x h1 h2 y hy
    · have g := q.2.2.1 x h1 h2 y hy
      have e1 : ¬ (16 * h ≤ 16 * x + y ∧ 16 * x + y < 16 * h + 16) := by omega
      rw [gn1_e, hS 165 (by decide), hS 166 (by decide)]
      simp only [e1, and_false, if_false]; exact g
    · simp only [rowc, hS 179 (by decide), hS 183 (by decide), hS 185 (by decide), hS 187 (by decide)]; exact q.2.2.2.1 x h1 h2
    · simp only [hS 154 (by decide), hS 155 (by decide), hS 156 (by decide)]; exact q.2.2.2.2 x h1 h2
theorem rx_rows {nh ns k : Nat} {pw : Nat → Nat} {L : List Nat} {T : xa_AH} {R : xa_AR} {S : xa_AH} (hX : RX nh ns k pw L T R S) {h : Nat} (hh : h < nh) (h0 : S 136 h = 0) : RX nh ns k pw L T R (xm_gn2 h S) := by
  have n12 := hX.n12
  have kle := hX.k_le
  unfold xm_gn2
  refine RX_let hX (fun a _ => rfl) (fun a ha => by rw [clr_a (by omega), clr_a (by omega)]) ?_ ?_ ?_ hX.rx_k
  · intro x hx
    have q := hX.rx_w x hx
    rw [clr_a (by decide), clr_a (by decide), clr_a (by decide), clr_a (by decide)]
    refine ⟨fun g => ⟨rowc_o (rowc_o (q.1 g).1), rowc_o (rowc_o (q.1 g).2)⟩, fun g1 g2 => ?_⟩
    have e : x ≠ h := fun e => g2 (by rw [e]; exact h0)
    rw [lr_clr (by omega), lr_clr (by omega), lr_clr (by omega), lr_clr (by omega)]
    exact q.2 g1 g2
  · intro i hi
    have q := hX.rx_p i hi
    have b := hX.pwb i (by omega)
    rw [clr_a (by decide), clr_a (by decide), clr_a (by decide), clr_a (by decide)]
    refine ⟨q.1, q.2.1, fun g => ?_, fun g1 g2 => ?_⟩
    · rw [lrow_clr (by omega), lrow_clr (by omega)]; exact q.2.2.1 g
    · have b2 : pw i + (if lne T (lt R i) = true then 1 else 0) ≤ 2 * i + 1 := by split <;> omega
      rw [lrow_clr (by omega), lrow_clr (by omega)]; exact q.2.2.2 g1 g2
  · intro x h1 h2
    have q := hX.i0_w x h1 h2
    exact ⟨rowc_o (rowc_o q.1), rowc_o (rowc_o q.2)⟩
/-- a host goes -/
theorem rx_goAway {nh ns k : Nat} {pw : Nat → Nat} {L : List Nat} {T : xa_AH} {R : xa_AR} {S : xa_AH} (hX : RX nh ns k pw L T R S) {h : Nat} (hh : h < nh) : RX nh ns k pw L (xa_up (xa_up (xa_up (xa_up (xa_up T (ci h 0) 8 0) (ci h 0) 9 0) (ci h 1) 4 0) (ci h 6) 2 0) (ci h 9) 1 0) R (xm_gone h S) := by
  rw [up_comm (ci_ne (by decide) (by decide) (by decide))]
  exact rx_rows (rx_aclr (rx_emp (rx_gone0 hX hh) hh) hh) hh (by
    rw [gn1_e, if_neg (by omega), emp_e, if_neg (by omega), if_neg (by omega)]; simp [xa_up])
