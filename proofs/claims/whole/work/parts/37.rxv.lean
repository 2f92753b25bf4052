theorem iv_g_c {S : xa_AH} {j : Nat} {v : Int32} (h : iv_g S) (n : j ≠ 36) : iv_g (xa_up S 130 j v) := by
  unfold iv_g; rw [up_k (Ne.symm n)]; exact h
theorem iv_e_c {nh : Nat} {S : xa_AH} {j : Nat} {v : Int32} (h : iv_e nh S) (n : j ≠ 36) : iv_e nh (xa_up S 130 j v) := by
  unfold iv_e; rw [up_k (Ne.symm n), up_o (by decide), up_o (by decide)]; exact h
set_option maxHeartbeats 200000 in
theorem rx_cletters {nh ns k : Nat} {pw : Nat → Nat} {L : List Nat} {T : xa_AH} {R : xa_AR} {S : xa_AH} (hX : RX nh ns k pw L T R S) {v : Int32} : RX nh ns k pw L (xa_up T (ci 0 129) 5 v) R (xa_up S 130 37 v) := by
  refine ⟨hX.rx_c, by rw [rx_l_S (by decide)]; exact hX.rx_l, ?_, by rw [rx_h_S (by decide), rx_h_T (by decide) (by decide)]; exact hX.rx_h, by rw [rx_s_S (by decide), rx_s_T (by decide) (by decide)]; exact hX.rx_s, by rw [rx_r_S (by decide), rx_r_T (by decide) (by decide)]; exact hX.rx_r, by rw [rx_a_S (by decide), rx_a_T (by decide) (by decide)]; exact hX.rx_a, by rw [rx_b_T (by decide) (by decide)]; exact hX.rx_b, by rw [rx_w_S (by decide), rx_w_T hX.rx_l (nlc (by decide) (by decide))]; exact hX.rx_w, by rw [rx_p_S (by decide), rx_p_T hX.rx_l hX.rx_k (nlc (by decide) (by decide))]; exact hX.rx_p, (xm_wf_up hX.xm_wf rfl), by rw [iv_h_S (by decide)]; exact hX.iv_h, by rw [iv_s_S (by decide)]; exact hX.iv_s, by rw [iv_r_S (by decide)]; exact hX.iv_r, by rw [iv_0_S (by decide)]; exact hX.iv_0, ?_, hX.rx_k, ?_⟩
  · have q := hX.rx_g
    simp only [rx_g, up_ci (r := 129) (q := 129) (by decide) (by decide), up_S, Nat.reduceEqDiff, true_and, false_and, and_false, if_false, and_true, reduceIte] at q ⊢
    exact ⟨q.1, q.2.1, q.2.2.1, q.2.2.2.2.1, q.2.2.2.2.2.1, q.2.2.2.2.2.2.1, q.2.2.2.2.2.2.2.1, q.2.2.2.2.2.2.2.2.1, q.2.2.2.2.2.2.2.2.2.1, q.2.2.2.2.2.2.2.2.2.2⟩
  · exact iv_g_c hX.iv_g (by decide)
  · exact iv_e_c hX.iv_e (by decide)
set_option maxHeartbeats 200000 in
theorem rx_clately {nh ns k : Nat} {pw : Nat → Nat} {L : List Nat} {T : xa_AH} {R : xa_AR} {S : xa_AH} (hX : RX nh ns k pw L T R S) {v : Int32} : RX nh ns k pw L (xa_up T (ci 0 129) 6 v) R (xa_up S 130 43 v) := by
  refine ⟨hX.rx_c, by rw [rx_l_S (by decide)]; exact hX.rx_l, ?_, by rw [rx_h_S (by decide), rx_h_T (by decide) (by decide)]; exact hX.rx_h, by rw [rx_s_S (by decide), rx_s_T (by decide) (by decide)]; exact hX.rx_s, by rw [rx_r_S (by decide), rx_r_T (by decide) (by decide)]; exact hX.rx_r, by rw [rx_a_S (by decide), rx_a_T (by decide) (by decide)]; exact hX.rx_a, by rw [rx_b_T (by decide) (by decide)]; exact hX.rx_b, by rw [rx_w_S (by decide), rx_w_T hX.rx_l (nlc (by decide) (by decide))]; exact hX.rx_w, by rw [rx_p_S (by decide), rx_p_T hX.rx_l hX.rx_k (nlc (by decide) (by decide))]; exact hX.rx_p, (xm_wf_up hX.xm_wf rfl), by rw [iv_h_S (by decide)]; exact hX.iv_h, by rw [iv_s_S (by decide)]; exact hX.iv_s, by rw [iv_r_S (by decide)]; exact hX.iv_r, by rw [iv_0_S (by decide)]; exact hX.iv_0, ?_, hX.rx_k, ?_⟩
  · have q := hX.rx_g
    simp only [rx_g, up_ci (r := 129) (q := 129) (by decide) (by decide), up_S, Nat.reduceEqDiff, true_and, false_and, and_false, if_false, and_true, reduceIte] at q ⊢
    exact ⟨q.1, q.2.1, q.2.2.1, q.2.2.2.1, q.2.2.2.2.2.1, q.2.2.2.2.2.2.1, q.2.2.2.2.2.2.2.1, q.2.2.2.2.2.2.2.2.1, q.2.2.2.2.2.2.2.2.2.1, q.2.2.2.2.2.2.2.2.2.2⟩
  · exact iv_g_c hX.iv_g (by decide)
  · exact iv_e_c hX.iv_e (by decide)
set_option maxHeartbeats 200000 in
theorem rx_clost {nh ns k : Nat} {pw : Nat → Nat} {L : List Nat} {T : xa_AH} {R : xa_AR} {S : xa_AH} (hX : RX nh ns k pw L T R S) {v : Int32} : RX nh ns k pw L (xa_up T (ci 0 129) 7 v) R (xa_up S 130 38 v) := by
  refine ⟨hX.rx_c, by rw [rx_l_S (by decide)]; exact hX.rx_l, ?_, by rw [rx_h_S (by decide), rx_h_T (by decide) (by decide)]; exact hX.rx_h, by rw [rx_s_S (by decide), rx_s_T (by decide) (by decide)]; exact hX.rx_s, by rw [rx_r_S (by decide), rx_r_T (by decide) (by decide)]; exact hX.rx_r, by rw [rx_a_S (by decide), rx_a_T (by decide) (by decide)]; exact hX.rx_a, by rw [rx_b_T (by decide) (by decide)]; exact hX.rx_b, by rw [rx_w_S (by decide), rx_w_T hX.rx_l (nlc (by decide) (by decide))]; exact hX.rx_w, by rw [rx_p_S (by decide), rx_p_T hX.rx_l hX.rx_k (nlc (by decide) (by decide))]; exact hX.rx_p, (xm_wf_up hX.xm_wf rfl), by rw [iv_h_S (by decide)]; exact hX.iv_h, by rw [iv_s_S (by decide)]; exact hX.iv_s, by rw [iv_r_S (by decide)]; exact hX.iv_r, by rw [iv_0_S (by decide)]; exact hX.iv_0, ?_, hX.rx_k, ?_⟩
  · have q := hX.rx_g
    simp only [rx_g, up_ci (r := 129) (q := 129) (by decide) (by decide), up_S, Nat.reduceEqDiff, true_and, false_and, and_false, if_false, and_true, reduceIte] at q ⊢
    exact ⟨q.1, q.2.1, q.2.2.1, q.2.2.2.1, q.2.2.2.2.1, q.2.2.2.2.2.2.1, q.2.2.2.2.2.2.2.1, q.2.2.2.2.2.2.2.2.1, q.2.2.2.2.2.2.2.2.2.1, q.2.2.2.2.2.2.2.2.2.2⟩
  · exact iv_g_c hX.iv_g (by decide)
  · exact iv_e_c hX.iv_e (by decide)
set_option maxHeartbeats 200000 in
theorem rx_cyields {nh ns k : Nat} {pw : Nat → Nat} {L : List Nat} {T : xa_AH} {R : xa_AR} {S : xa_AH} (hX : RX nh ns k pw L T R S) {v : Int32} : RX nh ns k pw L (xa_up T (ci 0 129) 8 v) R (xa_up S 130 39 v) := by
  refine ⟨hX.rx_c, by rw [rx_l_S (by decide)]; exact hX.rx_l, ?_, by rw [rx_h_S (by decide), rx_h_T (by decide) (by decide)]; exact hX.rx_h, by rw [rx_s_S (by decide), rx_s_T (by decide) (by decide)]; exact hX.rx_s, by rw [rx_r_S (by decide), rx_r_T (by decide) (by decide)]; exact hX.rx_r, by rw [rx_a_S (by decide), rx_a_T (by decide) (by decide)]; exact hX.rx_a, by rw [rx_b_T (by decide) (by decide)]; exact hX.rx_b, by rw [rx_w_S (by decide), rx_w_T hX.rx_l (nlc (by decide) (by decide))]; exact hX.rx_w, by rw [rx_p_S (by decide), rx_p_T hX.rx_l hX.rx_k (nlc (by decide) (by decide))]; exact hX.rx_p, (xm_wf_up hX.xm_wf rfl), by rw [iv_h_S (by decide)]; exact hX.iv_h, by rw [iv_s_S (by decide)]; exact hX.iv_s, by rw [iv_r_S (by decide)]; exact hX.iv_r, by rw [iv_0_S (by decide)]; exact hX.iv_0, ?_, hX.rx_k, ?_⟩
  · have q := hX.rx_g
    simp only [rx_g, up_ci (r := 129) (q := 129) (by decide) (by decide), up_S, Nat.reduceEqDiff, true_and, false_and, and_false, if_false, and_true, reduceIte] at q ⊢
    exact ⟨q.1, q.2.1, q.2.2.1, q.2.2.2.1, q.2.2.2.2.1, q.2.2.2.2.2.1, q.2.2.2.2.2.2.2.1, q.2.2.2.2.2.2.2.2.1, q.2.2.2.2.2.2.2.2.2.1, q.2.2.2.2.2.2.2.2.2.2⟩
  · exact iv_g_c hX.iv_g (by decide)
  · exact iv_e_c hX.iv_e (by decide)
set_option maxHeartbeats 200000 in
theorem rx_clies {nh ns k : Nat} {pw : Nat → Nat} {L : List Nat} {T : xa_AH} {R : xa_AR} {S : xa_AH} (hX : RX nh ns k pw L T R S) {v : Int32} : RX nh ns k pw L (xa_up T (ci 0 129) 9 v) R (xa_up S 130 40 v) := by
  refine ⟨hX.rx_c, by rw [rx_l_S (by decide)]; exact hX.rx_l, ?_, by rw [rx_h_S (by decide), rx_h_T (by decide) (by decide)]; exact hX.rx_h, by rw [rx_s_S (by decide), rx_s_T (by decide) (by decide)]; exact hX.rx_s, by rw [rx_r_S (by decide), rx_r_T (by decide) (by decide)]; exact hX.rx_r, by rw [rx_a_S (by decide), rx_a_T (by decide) (by decide)]; exact hX.rx_a, by rw [rx_b_T (by decide) (by decide)]; exact hX.rx_b, by rw [rx_w_S (by decide), rx_w_T hX.rx_l (nlc (by decide) (by decide))]; exact hX.rx_w, by rw [rx_p_S (by decide), rx_p_T hX.rx_l hX.rx_k (nlc (by decide) (by decide))]; exact hX.rx_p, (xm_wf_up hX.xm_wf rfl), by rw [iv_h_S (by decide)]; exact hX.iv_h, by rw [iv_s_S (by decide)]; exact hX.iv_s, by rw [iv_r_S (by decide)]; exact hX.iv_r, by rw [iv_0_S (by decide)]; exact hX.iv_0, ?_, hX.rx_k, ?_⟩
  · have q := hX.rx_g
    simp only [rx_g, up_ci (r := 129) (q := 129) (by decide) (by decide), up_S, Nat.reduceEqDiff, true_and, false_and, and_false, if_false, and_true, reduceIte] at q ⊢
    exact ⟨q.1, q.2.1, q.2.2.1, q.2.2.2.1, q.2.2.2.2.1, q.2.2.2.2.2.1, q.2.2.2.2.2.2.1, q.2.2.2.2.2.2.2.2.1, q.2.2.2.2.2.2.2.2.2.1, q.2.2.2.2.2.2.2.2.2.2⟩
  · exact iv_g_c hX.iv_g (by decide)
  · exact iv_e_c hX.iv_e (by decide)
set_option maxHeartbeats 200000 in
theorem rx_cleftOut {nh ns k : Nat} {pw : Nat → Nat} {L : List Nat} {T : xa_AH} {R : xa_AR} {S : xa_AH} (hX : RX nh ns k pw L T R S) {v : Int32} : RX nh ns k pw L (xa_up T (ci 0 129) 10 v) R (xa_up S 130 41 v) := by
  refine ⟨hX.rx_c, by rw [rx_l_S (by decide)]; exact hX.rx_l, ?_, by rw [rx_h_S (by decide), rx_h_T (by decide) (by decide)]; exact hX.rx_h, by rw [rx_s_S (by decide), rx_s_T (by decide) (by decide)]; exact hX.rx_s, by rw [rx_r_S (by decide), rx_r_T (by decide) (by decide)]; exact hX.rx_r, by rw [rx_a_S (by decide), rx_a_T (by decide) (by decide)]; exact hX.rx_a, by rw [rx_b_T (by decide) (by decide)]; exact hX.rx_b, by rw [rx_w_S (by decide), rx_w_T hX.rx_l (nlc (by decide) (by decide))]; exact hX.rx_w, by rw [rx_p_S (by decide), rx_p_T hX.rx_l hX.rx_k (nlc (by decide) (by decide))]; exact hX.rx_p, (xm_wf_up hX.xm_wf rfl), by rw [iv_h_S (by decide)]; exact hX.iv_h, by rw [iv_s_S (by decide)]; exact hX.iv_s, by rw [iv_r_S (by decide)]; exact hX.iv_r, by rw [iv_0_S (by decide)]; exact hX.iv_0, ?_, hX.rx_k, ?_⟩
  · have q := hX.rx_g
    simp only [rx_g, up_ci (r := 129) (q := 129) (by decide) (by decide), up_S, Nat.reduceEqDiff, true_and, false_and, and_false, if_false, and_true, reduceIte] at q ⊢
    exact ⟨q.1, q.2.1, q.2.2.1, q.2.2.2.1, q.2.2.2.2.1, q.2.2.2.2.2.1, q.2.2.2.2.2.2.1, q.2.2.2.2.2.2.2.1, q.2.2.2.2.2.2.2.2.2.1, q.2.2.2.2.2.2.2.2.2.2⟩
  · exact iv_g_c hX.iv_g (by decide)
  · exact iv_e_c hX.iv_e (by decide)
set_option maxHeartbeats 200000 in
theorem rx_cwoken {nh ns k : Nat} {pw : Nat → Nat} {L : List Nat} {T : xa_AH} {R : xa_AR} {S : xa_AH} (hX : RX nh ns k pw L T R S) {v : Int32} : RX nh ns k pw L (xa_up T (ci 0 129) 11 v) R (xa_up S 130 42 v) := by
  refine ⟨hX.rx_c, by rw [rx_l_S (by decide)]; exact hX.rx_l, ?_, by rw [rx_h_S (by decide), rx_h_T (by decide) (by decide)]; exact hX.rx_h, by rw [rx_s_S (by decide), rx_s_T (by decide) (by decide)]; exact hX.rx_s, by rw [rx_r_S (by decide), rx_r_T (by decide) (by decide)]; exact hX.rx_r, by rw [rx_a_S (by decide), rx_a_T (by decide) (by decide)]; exact hX.rx_a, by rw [rx_b_T (by decide) (by decide)]; exact hX.rx_b, by rw [rx_w_S (by decide), rx_w_T hX.rx_l (nlc (by decide) (by decide))]; exact hX.rx_w, by rw [rx_p_S (by decide), rx_p_T hX.rx_l hX.rx_k (nlc (by decide) (by decide))]; exact hX.rx_p, (xm_wf_up hX.xm_wf rfl), by rw [iv_h_S (by decide)]; exact hX.iv_h, by rw [iv_s_S (by decide)]; exact hX.iv_s, by rw [iv_r_S (by decide)]; exact hX.iv_r, by rw [iv_0_S (by decide)]; exact hX.iv_0, ?_, hX.rx_k, ?_⟩
  · have q := hX.rx_g
    simp only [rx_g, up_ci (r := 129) (q := 129) (by decide) (by decide), up_S, Nat.reduceEqDiff, true_and, false_and, and_false, if_false, and_true, reduceIte] at q ⊢
    exact ⟨q.1, q.2.1, q.2.2.1, q.2.2.2.1, q.2.2.2.2.1, q.2.2.2.2.2.1, q.2.2.2.2.2.2.1, q.2.2.2.2.2.2.2.1, q.2.2.2.2.2.2.2.2.1, q.2.2.2.2.2.2.2.2.2.2⟩
  · exact iv_g_c hX.iv_g (by decide)
  · exact iv_e_c hX.iv_e (by decide)
set_option maxHeartbeats 200000 in
theorem rx_ctakenUp {nh ns k : Nat} {pw : Nat → Nat} {L : List Nat} {T : xa_AH} {R : xa_AR} {S : xa_AH} (hX : RX nh ns k pw L T R S) {v : Int32} : RX nh ns k pw L (xa_up T (ci 0 129) 12 v) R (xa_up S 130 44 v) := by
  refine ⟨hX.rx_c, by rw [rx_l_S (by decide)]; exact hX.rx_l, ?_, by rw [rx_h_S (by decide), rx_h_T (by decide) (by decide)]; exact hX.rx_h, by rw [rx_s_S (by decide), rx_s_T (by decide) (by decide)]; exact hX.rx_s, by rw [rx_r_S (by decide), rx_r_T (by decide) (by decide)]; exact hX.rx_r, by rw [rx_a_S (by decide), rx_a_T (by decide) (by decide)]; exact hX.rx_a, by rw [rx_b_T (by decide) (by decide)]; exact hX.rx_b, by rw [rx_w_S (by decide), rx_w_T hX.rx_l (nlc (by decide) (by decide))]; exact hX.rx_w, by rw [rx_p_S (by decide), rx_p_T hX.rx_l hX.rx_k (nlc (by decide) (by decide))]; exact hX.rx_p, (xm_wf_up hX.xm_wf rfl), by rw [iv_h_S (by decide)]; exact hX.iv_h, by rw [iv_s_S (by decide)]; exact hX.iv_s, by rw [iv_r_S (by decide)]; exact hX.iv_r, by rw [iv_0_S (by decide)]; exact hX.iv_0, ?_, hX.rx_k, ?_⟩
  · have q := hX.rx_g
    simp only [rx_g, up_ci (r := 129) (q := 129) (by decide) (by decide), up_S, Nat.reduceEqDiff, true_and, false_and, and_false, if_false, and_true, reduceIte] at q ⊢
    exact ⟨q.1, q.2.1, q.2.2.1, q.2.2.2.1, q.2.2.2.2.1, q.2.2.2.2.2.1, q.2.2.2.2.2.2.1, q.2.2.2.2.2.2.2.1, q.2.2.2.2.2.2.2.2.1, q.2.2.2.2.2.2.2.2.2.1⟩
  · exact iv_g_c hX.iv_g (by decide)
  · exact iv_e_c hX.iv_e (by decide)
set_option maxHeartbeats 200000 in
theorem rx_marks {nh ns k : Nat} {pw : Nat → Nat} {L : List Nat} {T : xa_AH} {R : xa_AR} {S : xa_AH} (hX : RX nh ns k pw L T R S) {s : Nat} {m : Int32} (hs : s < ns) : RX nh ns k pw L (xa_up T (ci s 128) 6 m) R (xa_up S 149 s m) := by
  refine ⟨hX.rx_c, by rw [rx_l_S (by decide)]; exact hX.rx_l, by rw [rx_g_S (by decide), rx_g_T (by decide) (by decide)]; exact hX.rx_g, by rw [rx_h_S (by decide), rx_h_T (by decide) (by decide)]; exact hX.rx_h, ?_, by rw [rx_r_S (by decide), rx_r_T (by decide) (by decide)]; exact hX.rx_r, by rw [rx_a_S (by decide), rx_a_T (by decide) (by decide)]; exact hX.rx_a, by rw [rx_b_T (by decide) (by decide)]; exact hX.rx_b, by rw [rx_w_S (by decide), rx_w_T hX.rx_l (nlc (by decide) (by decide))]; exact hX.rx_w, by rw [rx_p_S (by decide), rx_p_T hX.rx_l hX.rx_k (nlc (by decide) (by decide))]; exact hX.rx_p, (xm_wf_up hX.xm_wf rfl), by rw [iv_h_S (by decide)]; exact hX.iv_h, ?_, by rw [iv_r_S (by decide)]; exact hX.iv_r, by rw [iv_0_S (by decide)]; exact hX.iv_0, by rw [iv_g_S (by decide)]; exact hX.iv_g, hX.rx_k, by rw [iv_e_S (by decide)]; exact hX.iv_e⟩
  · intro x hx
    have q := hX.rx_s x hx
    simp only [up_ci (r := 128) (q := 128) (by decide) (by decide), up_S, Nat.reduceEqDiff, true_and, false_and, and_false, if_false, and_true, reduceIte] at q ⊢
    refine ⟨q.1, q.2.1, q.2.2.1, q.2.2.2.1, q.2.2.2.2.1, q.2.2.2.2.2.1, by split <;> first | rfl | exact q.2.2.2.2.2.2.1, q.2.2.2.2.2.2.2.1, q.2.2.2.2.2.2.2.2.1, q.2.2.2.2.2.2.2.2.2.1, q.2.2.2.2.2.2.2.2.2.2.1, q.2.2.2.2.2.2.2.2.2.2.2⟩
  · exact hX.iv_s
set_option maxHeartbeats 200000 in
theorem rx_renew {nh ns k : Nat} {pw : Nat → Nat} {L : List Nat} {T : xa_AH} {R : xa_AR} {S : xa_AH} (hX : RX nh ns k pw L T R S) {s : Nat} {t : Int32} (hs : s < ns) : RX nh ns k pw L (xa_up T (ci s 128) 9 t) R (xa_up S 153 s t) := by
  refine ⟨hX.rx_c, by rw [rx_l_S (by decide)]; exact hX.rx_l, by rw [rx_g_S (by decide), rx_g_T (by decide) (by decide)]; exact hX.rx_g, by rw [rx_h_S (by decide), rx_h_T (by decide) (by decide)]; exact hX.rx_h, ?_, by rw [rx_r_S (by decide), rx_r_T (by decide) (by decide)]; exact hX.rx_r, by rw [rx_a_S (by decide), rx_a_T (by decide) (by decide)]; exact hX.rx_a, by rw [rx_b_T (by decide) (by decide)]; exact hX.rx_b, by rw [rx_w_S (by decide), rx_w_T hX.rx_l (nlc (by decide) (by decide))]; exact hX.rx_w, by rw [rx_p_S (by decide), rx_p_T hX.rx_l hX.rx_k (nlc (by decide) (by decide))]; exact hX.rx_p, (xm_wf_up hX.xm_wf rfl), by rw [iv_h_S (by decide)]; exact hX.iv_h, ?_, by rw [iv_r_S (by decide)]; exact hX.iv_r, by rw [iv_0_S (by decide)]; exact hX.iv_0, by rw [iv_g_S (by decide)]; exact hX.iv_g, hX.rx_k, by rw [iv_e_S (by decide)]; exact hX.iv_e⟩
  · intro x hx
    have q := hX.rx_s x hx
    simp only [up_ci (r := 128) (q := 128) (by decide) (by decide), up_S, Nat.reduceEqDiff, true_and, false_and, and_false, if_false, and_true, reduceIte] at q ⊢
    refine ⟨q.1, q.2.1, q.2.2.1, q.2.2.2.1, q.2.2.2.2.1, q.2.2.2.2.2.1, q.2.2.2.2.2.2.1, q.2.2.2.2.2.2.2.1, q.2.2.2.2.2.2.2.2.1, fun g => by split <;> first | rfl | exact q.2.2.2.2.2.2.2.2.2.1 g, q.2.2.2.2.2.2.2.2.2.2.1, q.2.2.2.2.2.2.2.2.2.2.2⟩
  · exact hX.iv_s
set_option maxHeartbeats 200000 in
theorem rx_claim {nh ns k : Nat} {pw : Nat → Nat} {L : List Nat} {T : xa_AH} {R : xa_AR} {S : xa_AH} (hX : RX nh ns k pw L T R S) {s : Nat} {c : Int32} (hs : s < ns) (hc : vp_in c 4) : RX nh ns k pw L (xa_up T (ci s 128) 8 c) R (xa_up S 152 s c) := by
  refine ⟨hX.rx_c, by rw [rx_l_S (by decide)]; exact hX.rx_l, by rw [rx_g_S (by decide), rx_g_T (by decide) (by decide)]; exact hX.rx_g, by rw [rx_h_S (by decide), rx_h_T (by decide) (by decide)]; exact hX.rx_h, ?_, by rw [rx_r_S (by decide), rx_r_T (by decide) (by decide)]; exact hX.rx_r, by rw [rx_a_S (by decide), rx_a_T (by decide) (by decide)]; exact hX.rx_a, by rw [rx_b_T (by decide) (by decide)]; exact hX.rx_b, by rw [rx_w_S (by decide), rx_w_T hX.rx_l (nlc (by decide) (by decide))]; exact hX.rx_w, by rw [rx_p_S (by decide), rx_p_T hX.rx_l hX.rx_k (nlc (by decide) (by decide))]; exact hX.rx_p, (xm_wf_up hX.xm_wf rfl), by rw [iv_h_S (by decide)]; exact hX.iv_h, ?_, by rw [iv_r_S (by decide)]; exact hX.iv_r, by rw [iv_0_S (by decide)]; exact hX.iv_0, by rw [iv_g_S (by decide)]; exact hX.iv_g, hX.rx_k, by rw [iv_e_S (by decide)]; exact hX.iv_e⟩
  · intro x hx
    have q := hX.rx_s x hx
    simp only [up_ci (r := 128) (q := 128) (by decide) (by decide), up_S, Nat.reduceEqDiff, true_and, false_and, and_false, if_false, and_true, reduceIte] at q ⊢
    refine ⟨q.1, q.2.1, q.2.2.1, q.2.2.2.1, q.2.2.2.2.1, q.2.2.2.2.2.1, q.2.2.2.2.2.2.1, q.2.2.2.2.2.2.2.1, fun g => by split <;> first | rfl | exact q.2.2.2.2.2.2.2.2.1 g, q.2.2.2.2.2.2.2.2.2.1, q.2.2.2.2.2.2.2.2.2.2.1, q.2.2.2.2.2.2.2.2.2.2.2⟩
  · intro x hx
    have q := hX.iv_s x hx
    simp only [xs, up_S, Nat.reduceEqDiff, true_and, false_and, and_false, if_false, and_true, reduceIte] at q ⊢
    refine ⟨q.1, q.2.1, q.2.2.1, by split <;> first | exact hc | exact q.2.2.2.1, q.2.2.2.2.1, q.2.2.2.2.2.1, q.2.2.2.2.2.2.1, q.2.2.2.2.2.2.2.1, q.2.2.2.2.2.2.2.2⟩
set_option maxHeartbeats 200000 in
theorem rx_nobye {nh ns k : Nat} {pw : Nat → Nat} {L : List Nat} {T : xa_AH} {R : xa_AR} {S : xa_AH} (hX : RX nh ns k pw L T R S) {s : Nat} (hs : s < ns) : RX nh ns k pw L (xa_up T (ci s 128) 10 0) R (xa_up S 155 s 0) := by
  refine ⟨hX.rx_c, by rw [rx_l_S (by decide)]; exact hX.rx_l, by rw [rx_g_S (by decide), rx_g_T (by decide) (by decide)]; exact hX.rx_g, by rw [rx_h_S (by decide), rx_h_T (by decide) (by decide)]; exact hX.rx_h, ?_, by rw [rx_r_S (by decide), rx_r_T (by decide) (by decide)]; exact hX.rx_r, by rw [rx_a_S (by decide), rx_a_T (by decide) (by decide)]; exact hX.rx_a, by rw [rx_b_T (by decide) (by decide)]; exact hX.rx_b, by rw [rx_w_S (by decide), rx_w_T hX.rx_l (nlc (by decide) (by decide))]; exact hX.rx_w, by rw [rx_p_S (by decide), rx_p_T hX.rx_l hX.rx_k (nlc (by decide) (by decide))]; exact hX.rx_p, (xm_wf_up hX.xm_wf rfl), by rw [iv_h_S (by decide)]; exact hX.iv_h, ?_, by rw [iv_r_S (by decide)]; exact hX.iv_r, ?_, by rw [iv_g_S (by decide)]; exact hX.iv_g, hX.rx_k, by rw [iv_e_S (by decide)]; exact hX.iv_e⟩
  · intro x hx
    have q := hX.rx_s x hx
    simp only [up_ci (r := 128) (q := 128) (by decide) (by decide), up_S, Nat.reduceEqDiff, true_and, false_and, and_false, if_false, and_true, reduceIte] at q ⊢
    refine ⟨q.1, q.2.1, q.2.2.1, q.2.2.2.1, q.2.2.2.2.1, q.2.2.2.2.2.1, q.2.2.2.2.2.2.1, q.2.2.2.2.2.2.2.1, q.2.2.2.2.2.2.2.2.1, q.2.2.2.2.2.2.2.2.2.1, by split <;> first | rfl | exact q.2.2.2.2.2.2.2.2.2.2.1, q.2.2.2.2.2.2.2.2.2.2.2⟩
  · intro x hx
    have q := hX.iv_s x hx
    simp only [xs, up_S, Nat.reduceEqDiff, true_and, false_and, and_false, if_false, and_true, reduceIte] at q ⊢
    refine ⟨q.1, q.2.1, q.2.2.1, q.2.2.2.1, q.2.2.2.2.1, by split <;> first | exact Or.inl rfl | exact q.2.2.2.2.2.1, q.2.2.2.2.2.2.1, q.2.2.2.2.2.2.2.1, q.2.2.2.2.2.2.2.2⟩
  · have q := hX.iv_0
    refine ⟨q.1, q.2.1, q.2.2.1, q.2.2.2.1, fun x h1 h2 => ?_⟩
    have g := q.2.2.2.2 x h1 h2
    have e : ¬ x = s := by omega
    simp only [up_S, Nat.reduceEqDiff, true_and, false_and, and_false, if_false, and_true, reduceIte, e] at g ⊢
    exact g
set_option maxHeartbeats 200000 in
theorem rx_hold {nh ns k : Nat} {pw : Nat → Nat} {L : List Nat} {T : xa_AH} {R : xa_AR} {S : xa_AH} (hX : RX nh ns k pw L T R S) {s : Nat} {t : Int32} (hs : s < ns) (hl : S 137 (xc (S 146 s)) = 0) : RX nh ns k pw L (xa_up (xa_up T (ci s 128) 7 2) (ci s 128) 9 t) R (xa_up (xa_up S 151 s 2) 153 s t) := by
  refine ⟨hX.rx_c, by rw [rx_l_S (by decide), rx_l_S (by decide)]; exact hX.rx_l, by rw [rx_g_S (by decide), rx_g_S (by decide), rx_g_T (by decide) (by decide), rx_g_T (by decide) (by decide)]; exact hX.rx_g, by rw [rx_h_S (by decide), rx_h_S (by decide), rx_h_T (by decide) (by decide), rx_h_T (by decide) (by decide)]; exact hX.rx_h, ?_, by rw [rx_r_S (by decide), rx_r_S (by decide), rx_r_T (by decide) (by decide), rx_r_T (by decide) (by decide)]; exact hX.rx_r, by rw [rx_a_S (by decide), rx_a_S (by decide), rx_a_T (by decide) (by decide), rx_a_T (by decide) (by decide)]; exact hX.rx_a, by rw [rx_b_T (by decide) (by decide), rx_b_T (by decide) (by decide)]; exact hX.rx_b, by rw [rx_w_S (by decide), rx_w_S (by decide), rx_w_T hX.rx_l (nlc (by decide) (by decide)), rx_w_T hX.rx_l (nlc (by decide) (by decide))]; exact hX.rx_w, by rw [rx_p_S (by decide), rx_p_S (by decide), rx_p_T hX.rx_l hX.rx_k (nlc (by decide) (by decide)), rx_p_T hX.rx_l hX.rx_k (nlc (by decide) (by decide))]; exact hX.rx_p, (xm_wf_up (xm_wf_up hX.xm_wf rfl) rfl), by rw [iv_h_S (by decide), iv_h_S (by decide)]; exact hX.iv_h, ?_, by rw [iv_r_S (by decide), iv_r_S (by decide)]; exact hX.iv_r, by rw [iv_0_S (by decide), iv_0_S (by decide)]; exact hX.iv_0, by rw [iv_g_S (by decide), iv_g_S (by decide)]; exact hX.iv_g, hX.rx_k, by rw [iv_e_S (by decide), iv_e_S (by decide)]; exact hX.iv_e⟩
  · intro x hx
    have q := hX.rx_s x hx
    simp only [up_ci (r := 128) (q := 128) (by decide) (by decide), up_S, Nat.reduceEqDiff, true_and, false_and, and_false, if_false, and_true, reduceIte] at q ⊢
    refine ⟨q.1, q.2.1, q.2.2.1, q.2.2.2.1, q.2.2.2.2.1, q.2.2.2.2.2.1, q.2.2.2.2.2.2.1, by split <;> first | rfl | exact q.2.2.2.2.2.2.2.1, ?_, ?_, q.2.2.2.2.2.2.2.2.2.2.1, q.2.2.2.2.2.2.2.2.2.2.2⟩
    · by_cases e : x = s
      · subst e; simp
      · simp only [e, if_false]; exact q.2.2.2.2.2.2.2.2.1
    · by_cases e : x = s
      · subst e; simp
      · simp only [e, if_false]; exact q.2.2.2.2.2.2.2.2.2.1
  · intro x hx
    have q := hX.iv_s x hx
    simp only [xs, up_S, Nat.reduceEqDiff, true_and, false_and, and_false, if_false, and_true, reduceIte] at q ⊢
    refine ⟨by split <;> first | exact Or.inr (Or.inr rfl) | exact q.1, ?_, q.2.2.1, q.2.2.2.1, q.2.2.2.2.1, q.2.2.2.2.2.1, q.2.2.2.2.2.2.1, q.2.2.2.2.2.2.2.1, q.2.2.2.2.2.2.2.2⟩
    · by_cases e : x = s
      · subst e; exact fun g => absurd hl g
      · simp only [e, if_false]; exact q.2.1
set_option maxHeartbeats 200000 in
theorem rx_wake {nh ns k : Nat} {pw : Nat → Nat} {L : List Nat} {T : xa_AH} {R : xa_AR} {S : xa_AH} (hX : RX nh ns k pw L T R S) {h : Nat} (hh : h < nh) (ha : S 136 h = 1) : RX nh ns k pw L (xa_up T (ci h 0) 8 2) R (xa_up (xa_up S 136 h 2) 141 h (-1)) := by
  refine ⟨hX.rx_c, by rw [rx_l_S (by decide), rx_l_S (by decide)]; exact hX.rx_l, by rw [rx_g_S (by decide), rx_g_S (by decide), rx_g_T (by decide) (by decide)]; exact hX.rx_g, ?_, by rw [rx_s_S (by decide), rx_s_S (by decide), rx_s_T (by decide) (by decide)]; exact hX.rx_s, by rw [rx_r_S (by decide), rx_r_S (by decide), rx_r_T (by decide) (by decide)]; exact hX.rx_r, by rw [rx_a_S (by decide), rx_a_S (by decide), rx_a_T (by decide) (by decide)]; exact hX.rx_a, by rw [rx_b_T (by decide) (by decide)]; exact hX.rx_b, ?_, by rw [rx_p_S (by decide), rx_p_S (by decide), rx_p_T hX.rx_l hX.rx_k (nlc (by decide) (by decide))]; exact hX.rx_p, (xm_wf_up (xm_wf_up hX.xm_wf rfl) rfl), ?_, by rw [iv_s_S (by decide), iv_s_S (by decide)]; exact hX.iv_s, by rw [iv_r_S (by decide), iv_r_S (by decide)]; exact hX.iv_r, ?_, by rw [iv_g_S (by decide), iv_g_S (by decide)]; exact hX.iv_g, hX.rx_k, by rw [iv_e_S (by decide), iv_e_S (by decide)]; exact hX.iv_e⟩
  · intro x hx
    have q := hX.rx_h x hx
    simp only [up_ci (r := 0) (q := 0) (by decide) (by decide), up_ci (r := 0) (q := 80) (by decide) (by decide), xs, up_S, Nat.reduceEqDiff, true_and, false_and, and_false, if_false, and_true, reduceIte] at q ⊢
    have l0 : S 137 h = 0 := by
      rcases hX.ih_lv hh with g | g
      · exact g
      · rw [g.2] at ha; exact absurd ha (by decide)
    refine ⟨q.1, q.2.1, q.2.2.1, q.2.2.2.1, q.2.2.2.2.1, ?_, q.2.2.2.2.2.2.1, q.2.2.2.2.2.2.2.1, q.2.2.2.2.2.2.2.2.1, q.2.2.2.2.2.2.2.2.2.1, q.2.2.2.2.2.2.2.2.2.2.1, q.2.2.2.2.2.2.2.2.2.2.2.1, q.2.2.2.2.2.2.2.2.2.2.2.2.1, q.2.2.2.2.2.2.2.2.2.2.2.2.2.1, ?_, q.2.2.2.2.2.2.2.2.2.2.2.2.2.2.2⟩
    · by_cases e : x = h
      · subst e; simp [l0]
      · simp only [e, if_false]; exact q.2.2.2.2.2.1
    · by_cases e : x = h
      · subst e; simp
      · simp only [e, if_false]; exact q.2.2.2.2.2.2.2.2.2.2.2.2.2.2.1
  · rw [rx_w_S (by decide)]
    have e : rx_w nh T R (xa_up S 136 h 2) := by
      intro x hx
      have q := hX.rx_w x hx
      refine ⟨q.1, fun h1 h2 => ?_⟩
      rw [lr_S (by decide), lr_S (by decide)]
      refine q.2 h1 ?_
      rw [up_S] at h2
      by_cases e : x = h
      · subst e; rw [ha]; decide
      · simpa [e] using h2
    have hl : rx_l nh L R (xa_up S 136 h 2) := by rw [rx_l_S (by decide)]; exact hX.rx_l
    rw [rx_w_T hl (nlc (by decide) (by decide))]; exact e
  · intro x hx
    have q := hX.iv_h x hx
    simp only [xs, up_S, Nat.reduceEqDiff, true_and, false_and, and_false, if_false, and_true, reduceIte] at q ⊢
    refine ⟨by split <;> first | exact Or.inr (Or.inr rfl) | exact q.1, ?_, q.2.2.1, q.2.2.2.1, q.2.2.2.2.1, ?_, q.2.2.2.2.2.2.1, q.2.2.2.2.2.2.2.1, q.2.2.2.2.2.2.2.2.1, q.2.2.2.2.2.2.2.2.2⟩
    · by_cases e : x = h
      · subst e; rcases q.2.1 with g | g
        · exact Or.inl g
        · exact Or.inr ⟨g.1, by simp⟩
      · simp only [e, if_false]; exact q.2.1
    · by_cases e : x = h
      · subst e; simp
      · simp only [e, if_false]; exact q.2.2.2.2.2.1
  · have q := hX.iv_0
    refine ⟨fun x h1 h2 => ?_, q.2.1, q.2.2.1, q.2.2.2.1, q.2.2.2.2⟩
    have g := q.1 x h1 h2
    have e : ¬ x = h := by omega
    simp only [up_S, Nat.reduceEqDiff, true_and, false_and, and_false, if_false, and_true, reduceIte, e] at g ⊢
    exact g
theorem goes_e {S : xa_AH} {s : Nat} {b : Int32} : xm_goes S s b = xa_up (xa_up (xa_up (xa_up S 155 s (if S 151 s = 2 ∧ ¬ b = 0 then 1 else S 155 s)) 151 s 0) 152 s 0) 153 s (-1) := by
  unfold xm_goes
  by_cases g : S 151 s = 2 ∧ ¬ b = 0
  · rw [if_pos g, if_pos g]
  · rw [if_neg g, if_neg g]
    congr 3
    funext x y
    rw [up_S]
    split
    · next q => rw [q.1, q.2]
    · rfl
set_option maxHeartbeats 200000 in
theorem rx_end0 {nh ns k : Nat} {pw : Nat → Nat} {L : List Nat} {T : xa_AH} {R : xa_AR} {S : xa_AH} (hX : RX nh ns k pw L T R S) {s : Nat} {b : Int32} (hs : s < ns) (hb : b = 0 ∨ b = 1) : RX nh ns k pw L (xa_up (xa_up T (ci s 128) 10 b) (ci s 128) 7 0) R (xa_up (xa_up (xa_up (xa_up S 155 s b) 151 s 0) 152 s 0) 153 s (-1)) := by
  refine ⟨hX.rx_c, by rw [rx_l_S (by decide), rx_l_S (by decide), rx_l_S (by decide), rx_l_S (by decide)]; exact hX.rx_l, by rw [rx_g_S (by decide), rx_g_S (by decide), rx_g_S (by decide), rx_g_S (by decide), rx_g_T (by decide) (by decide), rx_g_T (by decide) (by decide)]; exact hX.rx_g, by rw [rx_h_S (by decide), rx_h_S (by decide), rx_h_S (by decide), rx_h_S (by decide), rx_h_T (by decide) (by decide), rx_h_T (by decide) (by decide)]; exact hX.rx_h, ?_, by rw [rx_r_S (by decide), rx_r_S (by decide), rx_r_S (by decide), rx_r_S (by decide), rx_r_T (by decide) (by decide), rx_r_T (by decide) (by decide)]; exact hX.rx_r, by rw [rx_a_S (by decide), rx_a_S (by decide), rx_a_S (by decide), rx_a_S (by decide), rx_a_T (by decide) (by decide), rx_a_T (by decide) (by decide)]; exact hX.rx_a, by rw [rx_b_T (by decide) (by decide), rx_b_T (by decide) (by decide)]; exact hX.rx_b, by rw [rx_w_S (by decide), rx_w_S (by decide), rx_w_S (by decide), rx_w_S (by decide), rx_w_T hX.rx_l (nlc (by decide) (by decide)), rx_w_T hX.rx_l (nlc (by decide) (by decide))]; exact hX.rx_w, by rw [rx_p_S (by decide), rx_p_S (by decide), rx_p_S (by decide), rx_p_S (by decide), rx_p_T hX.rx_l hX.rx_k (nlc (by decide) (by decide)), rx_p_T hX.rx_l hX.rx_k (nlc (by decide) (by decide))]; exact hX.rx_p, (xm_wf_up (xm_wf_up (xm_wf_up (xm_wf_up hX.xm_wf rfl) rfl) rfl) rfl), by rw [iv_h_S (by decide), iv_h_S (by decide), iv_h_S (by decide), iv_h_S (by decide)]; exact hX.iv_h, ?_, by rw [iv_r_S (by decide), iv_r_S (by decide), iv_r_S (by decide), iv_r_S (by decide)]; exact hX.iv_r, ?_, by rw [iv_g_S (by decide), iv_g_S (by decide), iv_g_S (by decide), iv_g_S (by decide)]; exact hX.iv_g, hX.rx_k, by rw [iv_e_S (by decide), iv_e_S (by decide), iv_e_S (by decide), iv_e_S (by decide)]; exact hX.iv_e⟩
  · intro x hx
    have q := hX.rx_s x hx
    simp only [up_ci (r := 128) (q := 128) (by decide) (by decide), up_S, Nat.reduceEqDiff, true_and, false_and, and_false, if_false, and_true, reduceIte] at q ⊢
    refine ⟨q.1, q.2.1, q.2.2.1, q.2.2.2.1, q.2.2.2.2.1, q.2.2.2.2.2.1, q.2.2.2.2.2.2.1, by split <;> first | rfl | exact q.2.2.2.2.2.2.2.1, ?_, ?_, by split <;> first | rfl | exact q.2.2.2.2.2.2.2.2.2.2.1, q.2.2.2.2.2.2.2.2.2.2.2⟩
    · by_cases e : x = s
      · subst e; simp
      · simp only [e, if_false]; exact q.2.2.2.2.2.2.2.2.1
    · by_cases e : x = s
      · subst e; simp
      · simp only [e, if_false]; exact q.2.2.2.2.2.2.2.2.2.1
  · intro x hx
    have q := hX.iv_s x hx
    simp only [xs, up_S, Nat.reduceEqDiff, true_and, false_and, and_false, if_false, and_true, reduceIte] at q ⊢
    refine ⟨by split <;> first | exact Or.inl rfl | exact q.1, ?_, q.2.2.1, by split <;> first | exact vp_in_iff.mpr (by decide) | exact q.2.2.2.1, q.2.2.2.2.1, by split <;> first | exact hb | exact q.2.2.2.2.2.1, q.2.2.2.2.2.2.1, q.2.2.2.2.2.2.2.1, q.2.2.2.2.2.2.2.2⟩
    · by_cases e : x = s
      · subst e; simp
      · simp only [e, if_false]; exact q.2.1
  · have q := hX.iv_0
    refine ⟨q.1, q.2.1, q.2.2.1, q.2.2.2.1, fun x h1 h2 => ?_⟩
    have g := q.2.2.2.2 x h1 h2
    have e : ¬ x = s := by omega
    simp only [up_S, Nat.reduceEqDiff, true_and, false_and, and_false, if_false, and_true, reduceIte, e] at g ⊢
    exact g
theorem rx_end {nh ns k : Nat} {pw : Nat → Nat} {L : List Nat} {T : xa_AH} {R : xa_AR} {S : xa_AH} (hX : RX nh ns k pw L T R S) {s : Nat} (hs : s < ns) : RX nh ns k pw L (sx_end T s) R (xm_goes S s 1) := by
  have hb : sx_bye T s = (if S 151 s = 2 ∧ ¬ (1 : Int32) = 0 then 1 else S 155 s) := by
    unfold sx_bye
    rw [hX.s_hasBye hs, hX.s_state hs]
    rcases hX.is_by hs with g | g
    · simp [g]
    · simp [g]
  rw [goes_e, ← hb]
  refine rx_end0 hX hs ?_
  unfold sx_bye; split
  · exact Or.inr rfl
  · exact Or.inl rfl
theorem rx_end2 {nh ns k : Nat} {pw : Nat → Nat} {L : List Nat} {T : xa_AH} {R : xa_AR} {S : xa_AH} (hX : RX nh ns k pw L T R S) {s : Nat} (hs : s < ns) : RX nh ns k pw L (xa_up (sx_end T s) (ci s 128) 10 0) R (xa_up (xm_goes S s 0) 155 s 0) := by
  have e1 : xa_up (sx_end T s) (ci s 128) 10 0 = xa_up (xa_up (xa_up T (ci s 128) 10 0) (ci s 128) 7 0) (ci s 128) 10 0 := by
    funext x y; simp only [sx_end, xa_up]; split <;> simp_all
  have e2 : xa_up (xm_goes S s 0) 155 s 0 = xa_up (xa_up (xa_up (xa_up (xa_up S 155 s 0) 151 s 0) 152 s 0) 153 s (-1)) 155 s 0 := by
    rw [goes_e]; funext x y; simp only [xa_up]; split <;> simp_all
  rw [e1, e2]
  exact rx_nobye (rx_end0 hX hs (Or.inl rfl)) hs
