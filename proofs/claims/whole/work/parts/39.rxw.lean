set_option maxHeartbeats 200000 in
theorem rx_ask {nh ns k : Nat} {pw : Nat → Nat} {L : List Nat} {T : xa_AH} {R : xa_AR} {S : xa_AH} (hX : RX nh ns k pw L T R S) {h k1 : Nat} {m t : Int32} (hh : h < nh) (hk : k1 < 16) : RX nh ns k pw L (xa_up (xa_up (xa_up T (ci h 6) 2 (bset (T (ci h 6) 2) k1)) (ci h 7) k1 m) (ci h 8) k1 t) R (xa_up (xa_up (xa_up S 164 (16 * h + k1) 1) 165 (16 * h + k1) m) 166 (16 * h + k1) t) := by
  refine ⟨hX.rx_c, by rw [rx_l_S (by decide), rx_l_S (by decide), rx_l_S (by decide)]; exact hX.rx_l, by rw [rx_g_S (by decide), rx_g_S (by decide), rx_g_S (by decide), rx_g_T (by decide) (by decide), rx_g_T (by decide) (by decide), rx_g_T (by decide) (by decide)]; exact hX.rx_g, by rw [rx_h_S (by decide), rx_h_S (by decide), rx_h_S (by decide), rx_h_T (by decide) (by decide), rx_h_T (by decide) (by decide), rx_h_T (by decide) (by decide)]; exact hX.rx_h, by rw [rx_s_S (by decide), rx_s_S (by decide), rx_s_S (by decide), rx_s_T (by decide) (by decide), rx_s_T (by decide) (by decide), rx_s_T (by decide) (by decide)]; exact hX.rx_s, by rw [rx_r_S (by decide), rx_r_S (by decide), rx_r_S (by decide), rx_r_T (by decide) (by decide), rx_r_T (by decide) (by decide), rx_r_T (by decide) (by decide)]; exact hX.rx_r, ?_, ?_, by rw [rx_w_S (by decide), rx_w_S (by decide), rx_w_S (by decide), rx_w_T hX.rx_l (nlc (by decide) (by decide)), rx_w_T hX.rx_l (nlc (by decide) (by decide)), rx_w_T hX.rx_l (nlc (by decide) (by decide))]; exact hX.rx_w, by rw [rx_p_S (by decide), rx_p_S (by decide), rx_p_S (by decide), rx_p_T hX.rx_l hX.rx_k (nlc (by decide) (by decide)), rx_p_T hX.rx_l hX.rx_k (nlc (by decide) (by decide)), rx_p_T hX.rx_l hX.rx_k (nlc (by decide) (by decide))]; exact hX.rx_p, (xm_wf_up (xm_wf_up (xm_wf_up hX.xm_wf rfl) rfl) rfl), by rw [iv_h_S (by decide), iv_h_S (by decide), iv_h_S (by decide)]; exact hX.iv_h, by rw [iv_s_S (by decide), iv_s_S (by decide), iv_s_S (by decide)]; exact hX.iv_s, by rw [iv_r_S (by decide), iv_r_S (by decide), iv_r_S (by decide)]; exact hX.iv_r, ?_, by rw [iv_g_S (by decide), iv_g_S (by decide), iv_g_S (by decide)]; exact hX.iv_g, hX.rx_k, by rw [iv_e_S (by decide), iv_e_S (by decide), iv_e_S (by decide)]; exact hX.iv_e⟩
  · intro x hx y hy
    have q := hX.rx_a x hx y hy
    by_cases ex : x = h
    · subst ex
      by_cases ey : y = k1
      · subst y
        refine ⟨?_, ?_, ?_⟩ <;> simp [up_ci (r := 6) (q := 6) (by decide) (by decide), up_ci (r := 6) (q := 7) (by decide) (by decide), up_ci (r := 6) (q := 8) (by decide) (by decide), up_ci (r := 7) (q := 6) (by decide) (by decide), up_ci (r := 7) (q := 7) (by decide) (by decide), up_ci (r := 7) (q := 8) (by decide) (by decide), up_ci (r := 8) (q := 6) (by decide) (by decide), up_ci (r := 8) (q := 7) (by decide) (by decide), up_ci (r := 8) (q := 8) (by decide) (by decide), up_S, bt_bset (show k1 < 32 by omega), q.1, q.2.1, q.2.2]
      · have e : ¬ 16 * x + y = 16 * x + k1 := by omega
        refine ⟨?_, ?_, ?_⟩ <;> simp [up_ci (r := 6) (q := 6) (by decide) (by decide), up_ci (r := 6) (q := 7) (by decide) (by decide), up_ci (r := 6) (q := 8) (by decide) (by decide), up_ci (r := 7) (q := 6) (by decide) (by decide), up_ci (r := 7) (q := 7) (by decide) (by decide), up_ci (r := 7) (q := 8) (by decide) (by decide), up_ci (r := 8) (q := 6) (by decide) (by decide), up_ci (r := 8) (q := 7) (by decide) (by decide), up_ci (r := 8) (q := 8) (by decide) (by decide), up_S, ey, e, bt_bset (show k1 < 32 by omega), q.1, q.2.1, q.2.2]
    · have e : ¬ 16 * x + y = 16 * h + k1 := by omega
      refine ⟨?_, ?_, ?_⟩ <;> simp [up_ci (r := 6) (q := 6) (by decide) (by decide), up_ci (r := 6) (q := 7) (by decide) (by decide), up_ci (r := 6) (q := 8) (by decide) (by decide), up_ci (r := 7) (q := 6) (by decide) (by decide), up_ci (r := 7) (q := 7) (by decide) (by decide), up_ci (r := 7) (q := 8) (by decide) (by decide), up_ci (r := 8) (q := 6) (by decide) (by decide), up_ci (r := 8) (q := 7) (by decide) (by decide), up_ci (r := 8) (q := 8) (by decide) (by decide), up_S, ex, e, bt_bset (show k1 < 32 by omega), q.1, q.2.1, q.2.2]
  · intro x hx y hy
    have q := hX.b_big x hx y hy
    simp only [up_ci (r := 6) (q := 6) (by decide) (by decide), up_ci (r := 7) (q := 6) (by decide) (by decide), up_ci (r := 8) (q := 6) (by decide) (by decide), up_S, Nat.reduceEqDiff, true_and, false_and, and_false, if_false, and_true, reduceIte]
    by_cases ex : x = h
    · subst ex; simp only [if_true, true_and, if_pos]; rw [bt_bset (by omega)]; rw [q]; simp; omega
    · simp only [ex, if_false]; exact q
  · have q := hX.iv_0
    refine ⟨q.1, q.2.1, fun x h1 h2 y hy => ?_, q.2.2.2.1, q.2.2.2.2⟩
    have g := q.2.2.1 x h1 h2 y hy
    have e : ¬ 16 * x + y = 16 * h + k1 := by omega
    simp only [up_S, Nat.reduceEqDiff, true_and, false_and, and_false, if_false, and_true, reduceIte, e] at g ⊢
    exact g
set_option maxHeartbeats 200000 in
theorem rx_askrem {nh ns k : Nat} {pw : Nat → Nat} {L : List Nat} {T : xa_AH} {R : xa_AR} {S : xa_AH} (hX : RX nh ns k pw L T R S) {h k1 : Nat} (hh : h < nh) (hk : k1 < 16) : RX nh ns k pw L (xa_up T (ci h 6) 2 (bclr (T (ci h 6) 2) k1)) R (xa_up S 164 (16 * h + k1) 0) := by
  refine ⟨hX.rx_c, by rw [rx_l_S (by decide)]; exact hX.rx_l, by rw [rx_g_S (by decide), rx_g_T (by decide) (by decide)]; exact hX.rx_g, by rw [rx_h_S (by decide), rx_h_T (by decide) (by decide)]; exact hX.rx_h, by rw [rx_s_S (by decide), rx_s_T (by decide) (by decide)]; exact hX.rx_s, by rw [rx_r_S (by decide), rx_r_T (by decide) (by decide)]; exact hX.rx_r, ?_, ?_, by rw [rx_w_S (by decide), rx_w_T hX.rx_l (nlc (by decide) (by decide))]; exact hX.rx_w, by rw [rx_p_S (by decide), rx_p_T hX.rx_l hX.rx_k (nlc (by decide) (by decide))]; exact hX.rx_p, (xm_wf_up hX.xm_wf rfl), by rw [iv_h_S (by decide)]; exact hX.iv_h, by rw [iv_s_S (by decide)]; exact hX.iv_s, by rw [iv_r_S (by decide)]; exact hX.iv_r, ?_, by rw [iv_g_S (by decide)]; exact hX.iv_g, hX.rx_k, by rw [iv_e_S (by decide)]; exact hX.iv_e⟩
  · intro x hx y hy
    have q := hX.rx_a x hx y hy
    by_cases ex : x = h
    · subst ex
      by_cases ey : y = k1
      · subst y
        refine ⟨?_, ?_, ?_⟩ <;> simp [up_ci (r := 6) (q := 6) (by decide) (by decide), up_ci (r := 6) (q := 7) (by decide) (by decide), up_ci (r := 6) (q := 8) (by decide) (by decide), up_S, bt_bclr (show k1 < 32 by omega), q.1, q.2.1, q.2.2]
      · have e : ¬ 16 * x + y = 16 * x + k1 := by omega
        refine ⟨?_, ?_, ?_⟩ <;> simp [up_ci (r := 6) (q := 6) (by decide) (by decide), up_ci (r := 6) (q := 7) (by decide) (by decide), up_ci (r := 6) (q := 8) (by decide) (by decide), up_S, ey, e, bt_bclr (show k1 < 32 by omega), q.1, q.2.1, q.2.2]
    · have e : ¬ 16 * x + y = 16 * h + k1 := by omega
      refine ⟨?_, ?_, ?_⟩ <;> simp [up_ci (r := 6) (q := 6) (by decide) (by decide), up_ci (r := 6) (q := 7) (by decide) (by decide), up_ci (r := 6) (q := 8) (by decide) (by decide), up_S, ex, e, bt_bclr (show k1 < 32 by omega), q.1, q.2.1, q.2.2]
  · intro x hx y hy
    have q := hX.b_big x hx y hy
    simp only [up_ci (r := 6) (q := 6) (by decide) (by decide), up_S, Nat.reduceEqDiff, true_and, false_and, and_false, if_false, and_true, reduceIte]
    by_cases ex : x = h
    · subst ex; simp only [if_true, true_and, if_pos]; rw [bt_bclr (by omega)]; rw [q]; rfl
    · simp only [ex, if_false]; exact q
  · have q := hX.iv_0
    refine ⟨q.1, q.2.1, fun x h1 h2 y hy => ?_, q.2.2.2.1, q.2.2.2.2⟩
    have g := q.2.2.1 x h1 h2 y hy
    have e : ¬ 16 * x + y = 16 * h + k1 := by omega
    simp only [up_S, Nat.reduceEqDiff, true_and, false_and, and_false, if_false, and_true, reduceIte, e] at g ⊢
    exact g
set_option maxHeartbeats 200000 in
theorem rx_due0 {nh ns k : Nat} {pw : Nat → Nat} {L : List Nat} {T : xa_AH} {R : xa_AR} {S : xa_AH} (hX : RX nh ns k pw L T R S) {h s : Nat} {t : Int32} (hh : h < nh) (hs : s < ns) (ht : vp_in t 30300) : RX nh ns k pw L (xa_up (xa_up T (ci h 9) 1 (bset (T (ci h 9) 1) s)) (ci h 10) s t) R (xa_up S 163 (32 * h + s) t) := by
  have n32 := hX.n32
  have n12 := hX.n12
  have tne : ¬ t = -1 := by
    intro g; rw [g] at ht; have := vp_in_iff.mp ht; have e : (-1 : Int32).toInt = -1 := rfl; rw [e] at this; omega
  refine ⟨hX.rx_c, by rw [rx_l_S (by decide)]; exact hX.rx_l, by rw [rx_g_S (by decide), rx_g_T (by decide) (by decide), rx_g_T (by decide) (by decide)]; exact hX.rx_g, by rw [rx_h_S (by decide), rx_h_T (by decide) (by decide), rx_h_T (by decide) (by decide)]; exact hX.rx_h, by rw [rx_s_S (by decide), rx_s_T (by decide) (by decide), rx_s_T (by decide) (by decide)]; exact hX.rx_s, ?_, by rw [rx_a_S (by decide), rx_a_T (by decide) (by decide), rx_a_T (by decide) (by decide)]; exact hX.rx_a, by rw [rx_b_T (by decide) (by decide), rx_b_T (by decide) (by decide)]; exact hX.rx_b, by rw [rx_w_S (by decide), rx_w_T hX.rx_l (nlc (by decide) (by decide)), rx_w_T hX.rx_l (nlc (by decide) (by decide))]; exact hX.rx_w, by rw [rx_p_S (by decide), rx_p_T hX.rx_l hX.rx_k (nlc (by decide) (by decide)), rx_p_T hX.rx_l hX.rx_k (nlc (by decide) (by decide))]; exact hX.rx_p, (xm_wf_up hX.xm_wf rfl), by rw [iv_h_S (by decide)]; exact hX.iv_h, by rw [iv_s_S (by decide)]; exact hX.iv_s, ?_, ?_, by rw [iv_g_S (by decide)]; exact hX.iv_g, hX.rx_k, by rw [iv_e_S (by decide)]; exact hX.iv_e⟩
  · intro x hx y hy
    have q := hX.rx_r x hx y hy
    by_cases ex : x = h
    · subst ex
      by_cases ey : y = s
      · subst y
        refine ⟨?_, ?_, ?_, ?_, ?_, ?_, ?_⟩ <;> simp [up_ci (r := 9) (q := 1) (by decide) (by decide), up_ci (r := 9) (q := 2) (by decide) (by decide), up_ci (r := 9) (q := 3) (by decide) (by decide), up_ci (r := 9) (q := 4) (by decide) (by decide), up_ci (r := 9) (q := 5) (by decide) (by decide), up_ci (r := 9) (q := 9) (by decide) (by decide), up_ci (r := 9) (q := 10) (by decide) (by decide), up_ci (r := 10) (q := 1) (by decide) (by decide), up_ci (r := 10) (q := 2) (by decide) (by decide), up_ci (r := 10) (q := 3) (by decide) (by decide), up_ci (r := 10) (q := 4) (by decide) (by decide), up_ci (r := 10) (q := 5) (by decide) (by decide), up_ci (r := 10) (q := 9) (by decide) (by decide), up_ci (r := 10) (q := 10) (by decide) (by decide), up_S, bt_bset (show s < 32 by omega), tne, q.1, q.2.1, q.2.2.1, q.2.2.2.1, q.2.2.2.2.1, q.2.2.2.2.2.1, q.2.2.2.2.2.2]
        all_goals (intro g; exact q.2.2.2.2.2.2 g)
      · have e : ¬ 32 * x + y = 32 * x + s := by omega
        refine ⟨?_, ?_, ?_, ?_, ?_, ?_, ?_⟩ <;> simp [up_ci (r := 9) (q := 1) (by decide) (by decide), up_ci (r := 9) (q := 2) (by decide) (by decide), up_ci (r := 9) (q := 3) (by decide) (by decide), up_ci (r := 9) (q := 4) (by decide) (by decide), up_ci (r := 9) (q := 5) (by decide) (by decide), up_ci (r := 9) (q := 9) (by decide) (by decide), up_ci (r := 9) (q := 10) (by decide) (by decide), up_ci (r := 10) (q := 1) (by decide) (by decide), up_ci (r := 10) (q := 2) (by decide) (by decide), up_ci (r := 10) (q := 3) (by decide) (by decide), up_ci (r := 10) (q := 4) (by decide) (by decide), up_ci (r := 10) (q := 5) (by decide) (by decide), up_ci (r := 10) (q := 9) (by decide) (by decide), up_ci (r := 10) (q := 10) (by decide) (by decide), up_S, ey, e, bt_bset (show s < 32 by omega), tne, q.1, q.2.1, q.2.2.1, q.2.2.2.1, q.2.2.2.2.1, q.2.2.2.2.2.1, q.2.2.2.2.2.2]
        all_goals (intro g; exact q.2.2.2.2.2.2 g)
    · have e : ¬ 32 * x + y = 32 * h + s := by omega
      refine ⟨?_, ?_, ?_, ?_, ?_, ?_, ?_⟩ <;> simp [up_ci (r := 9) (q := 1) (by decide) (by decide), up_ci (r := 9) (q := 2) (by decide) (by decide), up_ci (r := 9) (q := 3) (by decide) (by decide), up_ci (r := 9) (q := 4) (by decide) (by decide), up_ci (r := 9) (q := 5) (by decide) (by decide), up_ci (r := 9) (q := 9) (by decide) (by decide), up_ci (r := 9) (q := 10) (by decide) (by decide), up_ci (r := 10) (q := 1) (by decide) (by decide), up_ci (r := 10) (q := 2) (by decide) (by decide), up_ci (r := 10) (q := 3) (by decide) (by decide), up_ci (r := 10) (q := 4) (by decide) (by decide), up_ci (r := 10) (q := 5) (by decide) (by decide), up_ci (r := 10) (q := 9) (by decide) (by decide), up_ci (r := 10) (q := 10) (by decide) (by decide), up_S, ex, e, bt_bset (show s < 32 by omega), tne, q.1, q.2.1, q.2.2.1, q.2.2.2.1, q.2.2.2.2.1, q.2.2.2.2.2.1, q.2.2.2.2.2.2]
      all_goals (intro g; exact q.2.2.2.2.2.2 g)
  · intro x hx y hy
    have q := hX.iv_r x hx y hy
    have e : (32 * x + y = 32 * h + s) = (x = h ∧ y = s) := propext (by omega)
    simp only [up_S, Nat.reduceEqDiff, true_and, false_and, and_false, if_false, and_true, reduceIte, e]
    refine ⟨q.1, q.2.1, ?_, q.2.2.2⟩
    by_cases g : x = h ∧ y = s
    · rw [if_pos g, g.2]; exact fun _ => ⟨hs, ht⟩
    · simp only [g, if_false]; exact q.2.2.1
  · have q := hX.iv_0
    refine ⟨q.1, fun x h1 h2 y hy => ?_, q.2.2.1, q.2.2.2.1, q.2.2.2.2⟩
    have g := q.2.1 x h1 h2 y hy
    have e : ¬ 32 * x + y = 32 * h + s := by omega
    simp only [up_S, Nat.reduceEqDiff, true_and, false_and, and_false, if_false, and_true, reduceIte, e] at g ⊢
    exact g
set_option maxHeartbeats 200000 in
theorem rx_ansrem {nh ns k : Nat} {pw : Nat → Nat} {L : List Nat} {T : xa_AH} {R : xa_AR} {S : xa_AH} (hX : RX nh ns k pw L T R S) {h s : Nat} (hh : h < nh) (hs : s < 32) : RX nh ns k pw L (xa_up T (ci h 9) 1 (bclr (T (ci h 9) 1) s)) R (xa_up S 163 (32 * h + s) (-1)) := by
  refine ⟨hX.rx_c, by rw [rx_l_S (by decide)]; exact hX.rx_l, by rw [rx_g_S (by decide), rx_g_T (by decide) (by decide)]; exact hX.rx_g, by rw [rx_h_S (by decide), rx_h_T (by decide) (by decide)]; exact hX.rx_h, by rw [rx_s_S (by decide), rx_s_T (by decide) (by decide)]; exact hX.rx_s, ?_, by rw [rx_a_S (by decide), rx_a_T (by decide) (by decide)]; exact hX.rx_a, by rw [rx_b_T (by decide) (by decide)]; exact hX.rx_b, by rw [rx_w_S (by decide), rx_w_T hX.rx_l (nlc (by decide) (by decide))]; exact hX.rx_w, by rw [rx_p_S (by decide), rx_p_T hX.rx_l hX.rx_k (nlc (by decide) (by decide))]; exact hX.rx_p, (xm_wf_up hX.xm_wf rfl), by rw [iv_h_S (by decide)]; exact hX.iv_h, by rw [iv_s_S (by decide)]; exact hX.iv_s, ?_, ?_, by rw [iv_g_S (by decide)]; exact hX.iv_g, hX.rx_k, by rw [iv_e_S (by decide)]; exact hX.iv_e⟩
  · intro x hx y hy
    have q := hX.rx_r x hx y hy
    by_cases ex : x = h
    · subst ex
      by_cases ey : y = s
      · subst y
        refine ⟨?_, ?_, ?_, ?_, ?_, ?_, ?_⟩ <;> simp [up_ci (r := 9) (q := 1) (by decide) (by decide), up_ci (r := 9) (q := 2) (by decide) (by decide), up_ci (r := 9) (q := 3) (by decide) (by decide), up_ci (r := 9) (q := 4) (by decide) (by decide), up_ci (r := 9) (q := 5) (by decide) (by decide), up_ci (r := 9) (q := 9) (by decide) (by decide), up_ci (r := 9) (q := 10) (by decide) (by decide), up_S, bt_bclr hs, q.1, q.2.1, q.2.2.1, q.2.2.2.1, q.2.2.2.2.1, q.2.2.2.2.2.1, q.2.2.2.2.2.2]
        all_goals (intro g; exact q.2.2.2.2.2.2 g)
      · have e : ¬ 32 * x + y = 32 * x + s := by omega
        refine ⟨?_, ?_, ?_, ?_, ?_, ?_, ?_⟩ <;> simp [up_ci (r := 9) (q := 1) (by decide) (by decide), up_ci (r := 9) (q := 2) (by decide) (by decide), up_ci (r := 9) (q := 3) (by decide) (by decide), up_ci (r := 9) (q := 4) (by decide) (by decide), up_ci (r := 9) (q := 5) (by decide) (by decide), up_ci (r := 9) (q := 9) (by decide) (by decide), up_ci (r := 9) (q := 10) (by decide) (by decide), up_S, ey, e, bt_bclr hs, q.1, q.2.1, q.2.2.1, q.2.2.2.1, q.2.2.2.2.1, q.2.2.2.2.2.1, q.2.2.2.2.2.2]
        all_goals (intro g; exact q.2.2.2.2.2.2 g)
    · have e : ¬ 32 * x + y = 32 * h + s := by omega
      refine ⟨?_, ?_, ?_, ?_, ?_, ?_, ?_⟩ <;> simp [up_ci (r := 9) (q := 1) (by decide) (by decide), up_ci (r := 9) (q := 2) (by decide) (by decide), up_ci (r := 9) (q := 3) (by decide) (by decide), up_ci (r := 9) (q := 4) (by decide) (by decide), up_ci (r := 9) (q := 5) (by decide) (by decide), up_ci (r := 9) (q := 9) (by decide) (by decide), up_ci (r := 9) (q := 10) (by decide) (by decide), up_S, ex, e, bt_bclr hs, q.1, q.2.1, q.2.2.1, q.2.2.2.1, q.2.2.2.2.1, q.2.2.2.2.2.1, q.2.2.2.2.2.2]
      all_goals (intro g; exact q.2.2.2.2.2.2 g)
  · intro x hx y hy
    have q := hX.iv_r x hx y hy
    have e : (32 * x + y = 32 * h + s) = (x = h ∧ y = s) := propext (by omega)
    simp only [up_S, Nat.reduceEqDiff, true_and, false_and, and_false, if_false, and_true, reduceIte, e]
    refine ⟨q.1, q.2.1, ?_, q.2.2.2⟩
    by_cases g : x = h ∧ y = s
    · rw [if_pos g]; exact fun q => absurd rfl q
    · simp only [g, if_false]; exact q.2.2.1
  · have q := hX.iv_0
    refine ⟨q.1, fun x h1 h2 y hy => ?_, q.2.2.1, q.2.2.2.1, q.2.2.2.2⟩
    have g := q.2.1 x h1 h2 y hy
    have e : ¬ 32 * x + y = 32 * h + s := by omega
    simp only [up_S, Nat.reduceEqDiff, true_and, false_and, and_false, if_false, and_true, reduceIte, e] at g ⊢
    exact g
set_option maxHeartbeats 200000 in
theorem rx_recrem {nh ns k : Nat} {pw : Nat → Nat} {L : List Nat} {T : xa_AH} {R : xa_AR} {S : xa_AH} (hX : RX nh ns k pw L T R S) {h s : Nat} (hh : h < nh) (hs : s < 32) : RX nh ns k pw L (xa_up T (ci h 1) 4 (bclr (T (ci h 1) 4) s)) R (xa_up S 158 (32 * h + s) 0) := by
  have n12 := hX.n12
  refine ⟨hX.rx_c, by rw [rx_l_S (by decide)]; exact hX.rx_l, by rw [rx_g_S (by decide), rx_g_T (by decide) (by decide)]; exact hX.rx_g, by rw [rx_h_S (by decide), rx_h_T (by decide) (by decide)]; exact hX.rx_h, by rw [rx_s_S (by decide), rx_s_T (by decide) (by decide)]; exact hX.rx_s, ?_, by rw [rx_a_S (by decide), rx_a_T (by decide) (by decide)]; exact hX.rx_a, by rw [rx_b_T (by decide) (by decide)]; exact hX.rx_b, by rw [rx_w_S (by decide), rx_w_T hX.rx_l (nlc (by decide) (by decide))]; exact hX.rx_w, by rw [rx_p_S (by decide), rx_p_T hX.rx_l hX.rx_k (nlc (by decide) (by decide))]; exact hX.rx_p, (xm_wf_up hX.xm_wf rfl), by rw [iv_h_S (by decide)]; exact hX.iv_h, by rw [iv_s_S (by decide)]; exact hX.iv_s, ?_, ?_, by rw [iv_g_S (by decide)]; exact hX.iv_g, hX.rx_k, ?_⟩
  · intro x hx y hy
    have q := hX.rx_r x hx y hy
    by_cases ex : x = h
    · subst ex
      by_cases ey : y = s
      · subst y
        refine ⟨?_, ?_, ?_, ?_, ?_, ?_, ?_⟩ <;> simp [up_ci (r := 1) (q := 1) (by decide) (by decide), up_ci (r := 1) (q := 2) (by decide) (by decide), up_ci (r := 1) (q := 3) (by decide) (by decide), up_ci (r := 1) (q := 4) (by decide) (by decide), up_ci (r := 1) (q := 5) (by decide) (by decide), up_ci (r := 1) (q := 9) (by decide) (by decide), up_ci (r := 1) (q := 10) (by decide) (by decide), up_S, bt_bclr hs, q.1, q.2.1, q.2.2.1, q.2.2.2.1, q.2.2.2.2.1, q.2.2.2.2.2.1, q.2.2.2.2.2.2]
        all_goals (intro g; exact q.2.2.2.2.2.2 g)
      · have e : ¬ 32 * x + y = 32 * x + s := by omega
        refine ⟨?_, ?_, ?_, ?_, ?_, ?_, ?_⟩ <;> simp [up_ci (r := 1) (q := 1) (by decide) (by decide), up_ci (r := 1) (q := 2) (by decide) (by decide), up_ci (r := 1) (q := 3) (by decide) (by decide), up_ci (r := 1) (q := 4) (by decide) (by decide), up_ci (r := 1) (q := 5) (by decide) (by decide), up_ci (r := 1) (q := 9) (by decide) (by decide), up_ci (r := 1) (q := 10) (by decide) (by decide), up_S, ey, e, bt_bclr hs, q.1, q.2.1, q.2.2.1, q.2.2.2.1, q.2.2.2.2.1, q.2.2.2.2.2.1, q.2.2.2.2.2.2]
        all_goals (intro g; exact q.2.2.2.2.2.2 g)
    · have e : ¬ 32 * x + y = 32 * h + s := by omega
      refine ⟨?_, ?_, ?_, ?_, ?_, ?_, ?_⟩ <;> simp [up_ci (r := 1) (q := 1) (by decide) (by decide), up_ci (r := 1) (q := 2) (by decide) (by decide), up_ci (r := 1) (q := 3) (by decide) (by decide), up_ci (r := 1) (q := 4) (by decide) (by decide), up_ci (r := 1) (q := 5) (by decide) (by decide), up_ci (r := 1) (q := 9) (by decide) (by decide), up_ci (r := 1) (q := 10) (by decide) (by decide), up_S, ex, e, bt_bclr hs, q.1, q.2.1, q.2.2.1, q.2.2.2.1, q.2.2.2.2.1, q.2.2.2.2.2.1, q.2.2.2.2.2.2]
      all_goals (intro g; exact q.2.2.2.2.2.2 g)
  · intro x hx y hy
    have q := hX.iv_r x hx y hy
    have e : ∀ z, z < 32 → (32 * x + z = 32 * h + s) = (x = h ∧ z = s) := fun z hz => propext (by omega)
    simp only [up_S, Nat.reduceEqDiff, true_and, false_and, and_false, if_false, and_true, reduceIte]
    refine ⟨fun g => ?_, q.2.1, q.2.2.1, fun z hz g1 g2 g3 => ?_⟩
    · simp only [e y hy] at g ⊢
      by_cases c : x = h ∧ y = s
      · rw [if_pos c] at g; exact absurd rfl g
      · rw [if_neg c] at g ⊢; exact q.1 g
    · simp only [e y hy] at g1
      simp only [e z hz] at g2
      by_cases c : x = h ∧ y = s
      · rw [if_pos c] at g1; exact absurd rfl g1
      · by_cases c2 : x = h ∧ z = s
        · rw [if_pos c2] at g2; exact absurd rfl g2
        · rw [if_neg c] at g1; rw [if_neg c2] at g2; exact q.2.2.2 z hz g1 g2 g3
  · have q := hX.iv_0
    refine ⟨q.1, fun x h1 h2 y hy => ?_, q.2.2.1, q.2.2.2.1, q.2.2.2.2⟩
    have g := q.2.1 x h1 h2 y hy
    have e : ¬ 32 * x + y = 32 * h + s := by omega
    simp only [up_S, Nat.reduceEqDiff, true_and, false_and, and_false, if_false, and_true, reduceIte, e] at g ⊢
    exact g
  · intro x hx y hy g
    rw [up_S] at g
    split at g
    · exact absurd rfl g
    · exact hX.ie_le hx hy g
set_option maxHeartbeats 200000 in
theorem rx_recput {nh ns k : Nat} {pw : Nat → Nat} {L : List Nat} {T : xa_AH} {R : xa_AR} {S : xa_AH} (hX : RX nh ns k pw L T R S) {h s : Nat} {n m l e0 : Int32} (hh : h < nh) (hs : s < ns) (hn : 1 ≤ n ∧ n ≤ 250) (he : vp_in e0 30300) (he2 : e0.toInt ≤ (S 130 36).toInt + 201) (hap : ∀ x, x < 32 → ¬ x = s → ¬ S 158 (32 * h + x) = 0 → ¬ S 159 (32 * h + x) = n) : RX nh ns k pw L (xa_up (xa_up (xa_up (xa_up (xa_up T (ci h 1) 4 (bset (T (ci h 1) 4) s)) (ci h 2) s n) (ci h 3) s m) (ci h 4) s l) (ci h 5) s e0) R (xa_up (xa_up (xa_up (xa_up (xa_up S 158 (32 * h + s) 1) 159 (32 * h + s) n) 160 (32 * h + s) m) 161 (32 * h + s) l) 162 (32 * h + s) e0) := by
  have n32 := hX.n32
  have n12 := hX.n12
  refine ⟨hX.rx_c, by rw [rx_l_S (by decide), rx_l_S (by decide), rx_l_S (by decide), rx_l_S (by decide), rx_l_S (by decide)]; exact hX.rx_l, by rw [rx_g_S (by decide), rx_g_S (by decide), rx_g_S (by decide), rx_g_S (by decide), rx_g_S (by decide), rx_g_T (by decide) (by decide), rx_g_T (by decide) (by decide), rx_g_T (by decide) (by decide), rx_g_T (by decide) (by decide), rx_g_T (by decide) (by decide)]; exact hX.rx_g, by rw [rx_h_S (by decide), rx_h_S (by decide), rx_h_S (by decide), rx_h_S (by decide), rx_h_S (by decide), rx_h_T (by decide) (by decide), rx_h_T (by decide) (by decide), rx_h_T (by decide) (by decide), rx_h_T (by decide) (by decide), rx_h_T (by decide) (by decide)]; exact hX.rx_h, by rw [rx_s_S (by decide), rx_s_S (by decide), rx_s_S (by decide), rx_s_S (by decide), rx_s_S (by decide), rx_s_T (by decide) (by decide), rx_s_T (by decide) (by decide), rx_s_T (by decide) (by decide), rx_s_T (by decide) (by decide), rx_s_T (by decide) (by decide)]; exact hX.rx_s, ?_, by rw [rx_a_S (by decide), rx_a_S (by decide), rx_a_S (by decide), rx_a_S (by decide), rx_a_S (by decide), rx_a_T (by decide) (by decide), rx_a_T (by decide) (by decide), rx_a_T (by decide) (by decide), rx_a_T (by decide) (by decide), rx_a_T (by decide) (by decide)]; exact hX.rx_a, by rw [rx_b_T (by decide) (by decide), rx_b_T (by decide) (by decide), rx_b_T (by decide) (by decide), rx_b_T (by decide) (by decide), rx_b_T (by decide) (by decide)]; exact hX.rx_b, by rw [rx_w_S (by decide), rx_w_S (by decide), rx_w_S (by decide), rx_w_S (by decide), rx_w_S (by decide), rx_w_T hX.rx_l (nlc (by decide) (by decide)), rx_w_T hX.rx_l (nlc (by decide) (by decide)), rx_w_T hX.rx_l (nlc (by decide) (by decide)), rx_w_T hX.rx_l (nlc (by decide) (by decide)), rx_w_T hX.rx_l (nlc (by decide) (by decide))]; exact hX.rx_w, by rw [rx_p_S (by decide), rx_p_S (by decide), rx_p_S (by decide), rx_p_S (by decide), rx_p_S (by decide), rx_p_T hX.rx_l hX.rx_k (nlc (by decide) (by decide)), rx_p_T hX.rx_l hX.rx_k (nlc (by decide) (by decide)), rx_p_T hX.rx_l hX.rx_k (nlc (by decide) (by decide)), rx_p_T hX.rx_l hX.rx_k (nlc (by decide) (by decide)), rx_p_T hX.rx_l hX.rx_k (nlc (by decide) (by decide))]; exact hX.rx_p, (xm_wf_up (xm_wf_up (xm_wf_up (xm_wf_up (xm_wf_up hX.xm_wf rfl) rfl) rfl) rfl) rfl), by rw [iv_h_S (by decide), iv_h_S (by decide), iv_h_S (by decide), iv_h_S (by decide), iv_h_S (by decide)]; exact hX.iv_h, by rw [iv_s_S (by decide), iv_s_S (by decide), iv_s_S (by decide), iv_s_S (by decide), iv_s_S (by decide)]; exact hX.iv_s, ?_, ?_, by rw [iv_g_S (by decide), iv_g_S (by decide), iv_g_S (by decide), iv_g_S (by decide), iv_g_S (by decide)]; exact hX.iv_g, hX.rx_k, ?_⟩
  · intro x hx y hy
    have q := hX.rx_r x hx y hy
    by_cases ex : x = h
    · subst ex
      by_cases ey : y = s
      · subst y
        refine ⟨?_, ?_, ?_, ?_, ?_, ?_, ?_⟩ <;> simp [up_ci (r := 1) (q := 1) (by decide) (by decide), up_ci (r := 1) (q := 2) (by decide) (by decide), up_ci (r := 1) (q := 3) (by decide) (by decide), up_ci (r := 1) (q := 4) (by decide) (by decide), up_ci (r := 1) (q := 5) (by decide) (by decide), up_ci (r := 1) (q := 9) (by decide) (by decide), up_ci (r := 1) (q := 10) (by decide) (by decide), up_ci (r := 2) (q := 1) (by decide) (by decide), up_ci (r := 2) (q := 2) (by decide) (by decide), up_ci (r := 2) (q := 3) (by decide) (by decide), up_ci (r := 2) (q := 4) (by decide) (by decide), up_ci (r := 2) (q := 5) (by decide) (by decide), up_ci (r := 2) (q := 9) (by decide) (by decide), up_ci (r := 2) (q := 10) (by decide) (by decide), up_ci (r := 3) (q := 1) (by decide) (by decide), up_ci (r := 3) (q := 2) (by decide) (by decide), up_ci (r := 3) (q := 3) (by decide) (by decide), up_ci (r := 3) (q := 4) (by decide) (by decide), up_ci (r := 3) (q := 5) (by decide) (by decide), up_ci (r := 3) (q := 9) (by decide) (by decide), up_ci (r := 3) (q := 10) (by decide) (by decide), up_ci (r := 4) (q := 1) (by decide) (by decide), up_ci (r := 4) (q := 2) (by decide) (by decide), up_ci (r := 4) (q := 3) (by decide) (by decide), up_ci (r := 4) (q := 4) (by decide) (by decide), up_ci (r := 4) (q := 5) (by decide) (by decide), up_ci (r := 4) (q := 9) (by decide) (by decide), up_ci (r := 4) (q := 10) (by decide) (by decide), up_ci (r := 5) (q := 1) (by decide) (by decide), up_ci (r := 5) (q := 2) (by decide) (by decide), up_ci (r := 5) (q := 3) (by decide) (by decide), up_ci (r := 5) (q := 4) (by decide) (by decide), up_ci (r := 5) (q := 5) (by decide) (by decide), up_ci (r := 5) (q := 9) (by decide) (by decide), up_ci (r := 5) (q := 10) (by decide) (by decide), up_S, bt_bset (show s < 32 by omega), q.1, q.2.1, q.2.2.1, q.2.2.2.1, q.2.2.2.2.1, q.2.2.2.2.2.1, q.2.2.2.2.2.2]
        all_goals (intro g; exact q.2.2.2.2.2.2 g)
      · have e : ¬ 32 * x + y = 32 * x + s := by omega
        refine ⟨?_, ?_, ?_, ?_, ?_, ?_, ?_⟩ <;> simp [up_ci (r := 1) (q := 1) (by decide) (by decide), up_ci (r := 1) (q := 2) (by decide) (by decide), up_ci (r := 1) (q := 3) (by decide) (by decide), up_ci (r := 1) (q := 4) (by decide) (by decide), up_ci (r := 1) (q := 5) (by decide) (by decide), up_ci (r := 1) (q := 9) (by decide) (by decide), up_ci (r := 1) (q := 10) (by decide) (by decide), up_ci (r := 2) (q := 1) (by decide) (by decide), up_ci (r := 2) (q := 2) (by decide) (by decide), up_ci (r := 2) (q := 3) (by decide) (by decide), up_ci (r := 2) (q := 4) (by decide) (by decide), up_ci (r := 2) (q := 5) (by decide) (by decide), up_ci (r := 2) (q := 9) (by decide) (by decide), up_ci (r := 2) (q := 10) (by decide) (by decide), up_ci (r := 3) (q := 1) (by decide) (by decide), up_ci (r := 3) (q := 2) (by decide) (by decide), up_ci (r := 3) (q := 3) (by decide) (by decide), up_ci (r := 3) (q := 4) (by decide) (by decide), up_ci (r := 3) (q := 5) (by decide) (by decide), up_ci (r := 3) (q := 9) (by decide) (by decide), up_ci (r := 3) (q := 10) (by decide) (by decide), up_ci (r := 4) (q := 1) (by decide) (by decide), up_ci (r := 4) (q := 2) (by decide) (by decide), up_ci (r := 4) (q := 3) (by decide) (by decide), up_ci (r := 4) (q := 4) (by decide) (by decide), up_ci (r := 4) (q := 5) (by decide) (by decide), up_ci (r := 4) (q := 9) (by decide) (by decide), up_ci (r := 4) (q := 10) (by decide) (by decide), up_ci (r := 5) (q := 1) (by decide) (by decide), up_ci (r := 5) (q := 2) (by decide) (by decide), up_ci (r := 5) (q := 3) (by decide) (by decide), up_ci (r := 5) (q := 4) (by decide) (by decide), up_ci (r := 5) (q := 5) (by decide) (by decide), up_ci (r := 5) (q := 9) (by decide) (by decide), up_ci (r := 5) (q := 10) (by decide) (by decide), up_S, ey, e, bt_bset (show s < 32 by omega), q.1, q.2.1, q.2.2.1, q.2.2.2.1, q.2.2.2.2.1, q.2.2.2.2.2.1, q.2.2.2.2.2.2]
        all_goals (intro g; exact q.2.2.2.2.2.2 g)
    · have e : ¬ 32 * x + y = 32 * h + s := by omega
      refine ⟨?_, ?_, ?_, ?_, ?_, ?_, ?_⟩ <;> simp [up_ci (r := 1) (q := 1) (by decide) (by decide), up_ci (r := 1) (q := 2) (by decide) (by decide), up_ci (r := 1) (q := 3) (by decide) (by decide), up_ci (r := 1) (q := 4) (by decide) (by decide), up_ci (r := 1) (q := 5) (by decide) (by decide), up_ci (r := 1) (q := 9) (by decide) (by decide), up_ci (r := 1) (q := 10) (by decide) (by decide), up_ci (r := 2) (q := 1) (by decide) (by decide), up_ci (r := 2) (q := 2) (by decide) (by decide), up_ci (r := 2) (q := 3) (by decide) (by decide), up_ci (r := 2) (q := 4) (by decide) (by decide), up_ci (r := 2) (q := 5) (by decide) (by decide), up_ci (r := 2) (q := 9) (by decide) (by decide), up_ci (r := 2) (q := 10) (by decide) (by decide), up_ci (r := 3) (q := 1) (by decide) (by decide), up_ci (r := 3) (q := 2) (by decide) (by decide), up_ci (r := 3) (q := 3) (by decide) (by decide), up_ci (r := 3) (q := 4) (by decide) (by decide), up_ci (r := 3) (q := 5) (by decide) (by decide), up_ci (r := 3) (q := 9) (by decide) (by decide), up_ci (r := 3) (q := 10) (by decide) (by decide), up_ci (r := 4) (q := 1) (by decide) (by decide), up_ci (r := 4) (q := 2) (by decide) (by decide), up_ci (r := 4) (q := 3) (by decide) (by decide), up_ci (r := 4) (q := 4) (by decide) (by decide), up_ci (r := 4) (q := 5) (by decide) (by decide), up_ci (r := 4) (q := 9) (by decide) (by decide), up_ci (r := 4) (q := 10) (by decide) (by decide), up_ci (r := 5) (q := 1) (by decide) (by decide), up_ci (r := 5) (q := 2) (by decide) (by decide), up_ci (r := 5) (q := 3) (by decide) (by decide), up_ci (r := 5) (q := 4) (by decide) (by decide), up_ci (r := 5) (q := 5) (by decide) (by decide), up_ci (r := 5) (q := 9) (by decide) (by decide), up_ci (r := 5) (q := 10) (by decide) (by decide), up_S, ex, e, bt_bset (show s < 32 by omega), q.1, q.2.1, q.2.2.1, q.2.2.2.1, q.2.2.2.2.1, q.2.2.2.2.2.1, q.2.2.2.2.2.2]
      all_goals (intro g; exact q.2.2.2.2.2.2 g)
  · intro x hx y hy
    have q := hX.iv_r x hx y hy
    have e : ∀ z, z < 32 → (32 * x + z = 32 * h + s) = (x = h ∧ z = s) := fun z hz => propext (by omega)
    simp only [up_S, Nat.reduceEqDiff, true_and, false_and, and_false, if_false, and_true, reduceIte]
    refine ⟨fun g => ?_, ?_, q.2.2.1, fun z hz g1 g2 g3 => ?_⟩
    · simp only [e y hy] at g ⊢
      by_cases c : x = h ∧ y = s
      · simp only [if_pos c]; exact ⟨by omega, trivial, hn⟩
      · simp only [if_neg c] at g ⊢; exact q.1 g
    · simp only [e y hy]; split
      · exact he
      · exact q.2.1
    · simp only [e y hy] at g1 g3
      simp only [e z hz] at g2 g3
      by_cases c : x = h ∧ y = s
      · by_cases c2 : x = h ∧ z = s
        · rw [c.2, c2.2]
        · rw [if_neg c2] at g2 g3
          rw [if_pos c] at g3
          have hz2 : ¬ z = s := fun w => c2 ⟨c.1, w⟩
          rw [c.1] at g2 g3
          exact absurd g3.symm (hap z hz hz2 g2)
      · rw [if_neg c] at g1 g3
        by_cases c2 : x = h ∧ z = s
        · rw [if_pos c2] at g3
          have hy2 : ¬ y = s := fun w => c ⟨c2.1, w⟩
          rw [c2.1] at g1 g3
          exact absurd g3 (hap y hy hy2 g1)
        · rw [if_neg c2] at g2 g3; exact q.2.2.2 z hz g1 g2 g3
  · have q := hX.iv_0
    refine ⟨q.1, fun x h1 h2 y hy => ?_, q.2.2.1, q.2.2.2.1, q.2.2.2.2⟩
    have g := q.2.1 x h1 h2 y hy
    have e : ¬ 32 * x + y = 32 * h + s := by omega
    simp only [up_S, Nat.reduceEqDiff, true_and, false_and, and_false, if_false, and_true, reduceIte, e] at g ⊢
    exact g
  · intro x hx y hy g
    have e : (32 * x + y = 32 * h + s) = (x = h ∧ y = s) := propext (by omega)
    simp only [up_S, Nat.reduceEqDiff, true_and, false_and, and_false, if_false, and_true, reduceIte, e] at g ⊢
    by_cases c : x = h ∧ y = s
    · simp only [if_pos c]; exact he2
    · simp only [if_neg c] at g ⊢; exact hX.ie_le hx hy g
theorem rx_due {nh ns k : Nat} {pw : Nat → Nat} {L : List Nat} {T : xa_AH} {R : xa_AR} {S : xa_AH} (hX : RX nh ns k pw L T R S) {h s : Nat} {t : Int32} (hh : h < nh) (hs : s < ns) (ht : vp_in t 30300) : RX nh ns k pw L (cx_due T h s t) R (xm_due S h s t) := by
  have n32 := hX.n32
  have e : (bt (T (ci h 9) 1) s = false ∨ ¬ T (ci h 10) s ≤ t) ↔ (S 163 (32 * h + s) = -1 ∨ ¬ S 163 (32 * h + s) ≤ t) := by
    rw [hX.r_ans hh (by omega)]
    by_cases g : S 163 (32 * h + s) = -1
    · simp [g]
    · rw [hX.r_due hh (by omega) g]; simp [g]
  unfold cx_due xm_due
  by_cases g : S 163 (32 * h + s) = -1 ∨ ¬ S 163 (32 * h + s) ≤ t
  · rw [if_pos g, if_pos (e.mpr g)]; exact rx_due0 hX hh hs ht
  · rw [if_neg g, if_neg (fun q => g (e.mp q))]; exact hX
