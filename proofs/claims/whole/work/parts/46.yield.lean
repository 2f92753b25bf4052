set_option maxHeartbeats 200000 in
theorem rx_anew0 {nh ns k : Nat} {pw : Nat → Nat} {L : List Nat} {T : xa_AH} {R : xa_AR} {S : xa_AH} (hX : RX nh ns k pw L T R S) {s : Nat} {b n v : Int32} (hs : s < ns) (hb : b = 0 ∨ b = 1) (hn : 1 ≤ n ∧ n ≤ 250) (ho : S 133 (xc (S 146 s)) ≤ n ∧ n ≤ S 134 (xc (S 146 s))) (hl : S 137 (xc (S 146 s)) = 0) : RX nh ns k pw L (xa_up (xa_up (xa_up (xa_up (xa_up T (ci s 128) 10 b) (ci s 128) 5 n) (ci s 128) 7 1) (ci s 128) 8 3) (ci s 128) 11 v) R (xa_up (xa_up (xa_up (xa_up (xa_up (xa_up S 155 s b) 148 s n) 151 s 1) 152 s 3) 153 s (-1)) 154 s v) := by
  refine ⟨hX.rx_c, by rw [rx_l_S (by decide), rx_l_S (by decide), rx_l_S (by decide), rx_l_S (by decide), rx_l_S (by decide), rx_l_S (by decide)]; exact hX.rx_l, by rw [rx_g_S (by decide), rx_g_S (by decide), rx_g_S (by decide), rx_g_S (by decide), rx_g_S (by decide), rx_g_S (by decide), rx_g_T (by decide) (by decide), rx_g_T (by decide) (by decide), rx_g_T (by decide) (by decide), rx_g_T (by decide) (by decide), rx_g_T (by decide) (by decide)]; exact hX.rx_g, by rw [rx_h_S (by decide), rx_h_S (by decide), rx_h_S (by decide), rx_h_S (by decide), rx_h_S (by decide), rx_h_S (by decide), rx_h_T (by decide) (by decide), rx_h_T (by decide) (by decide), rx_h_T (by decide) (by decide), rx_h_T (by decide) (by decide), rx_h_T (by decide) (by decide)]; exact hX.rx_h, ?_, by rw [rx_r_S (by decide), rx_r_S (by decide), rx_r_S (by decide), rx_r_S (by decide), rx_r_S (by decide), rx_r_S (by decide), rx_r_T (by decide) (by decide), rx_r_T (by decide) (by decide), rx_r_T (by decide) (by decide), rx_r_T (by decide) (by decide), rx_r_T (by decide) (by decide)]; exact hX.rx_r, by rw [rx_a_S (by decide), rx_a_S (by decide), rx_a_S (by decide), rx_a_S (by decide), rx_a_S (by decide), rx_a_S (by decide), rx_a_T (by decide) (by decide), rx_a_T (by decide) (by decide), rx_a_T (by decide) (by decide), rx_a_T (by decide) (by decide), rx_a_T (by decide) (by decide)]; exact hX.rx_a, by rw [rx_b_T (by decide) (by decide), rx_b_T (by decide) (by decide), rx_b_T (by decide) (by decide), rx_b_T (by decide) (by decide), rx_b_T (by decide) (by decide)]; exact hX.rx_b, by rw [rx_w_S (by decide), rx_w_S (by decide), rx_w_S (by decide), rx_w_S (by decide), rx_w_S (by decide), rx_w_S (by decide), rx_w_T hX.rx_l (nlc (by decide) (by decide)), rx_w_T hX.rx_l (nlc (by decide) (by decide)), rx_w_T hX.rx_l (nlc (by decide) (by decide)), rx_w_T hX.rx_l (nlc (by decide) (by decide)), rx_w_T hX.rx_l (nlc (by decide) (by decide))]; exact hX.rx_w, by rw [rx_p_S (by decide), rx_p_S (by decide), rx_p_S (by decide), rx_p_S (by decide), rx_p_S (by decide), rx_p_S (by decide), rx_p_T hX.rx_l hX.rx_k (nlc (by decide) (by decide)), rx_p_T hX.rx_l hX.rx_k (nlc (by decide) (by decide)), rx_p_T hX.rx_l hX.rx_k (nlc (by decide) (by decide)), rx_p_T hX.rx_l hX.rx_k (nlc (by decide) (by decide)), rx_p_T hX.rx_l hX.rx_k (nlc (by decide) (by decide))]; exact hX.rx_p, (xm_wf_up (xm_wf_up (xm_wf_up (xm_wf_up (xm_wf_up (xm_wf_up hX.xm_wf rfl) rfl) rfl) rfl) rfl) rfl), by rw [iv_h_S (by decide), iv_h_S (by decide), iv_h_S (by decide), iv_h_S (by decide), iv_h_S (by decide), iv_h_S (by decide)]; exact hX.iv_h, ?_, by rw [iv_r_S (by decide), iv_r_S (by decide), iv_r_S (by decide), iv_r_S (by decide), iv_r_S (by decide), iv_r_S (by decide)]; exact hX.iv_r, ?_, by rw [iv_g_S (by decide), iv_g_S (by decide), iv_g_S (by decide), iv_g_S (by decide), iv_g_S (by decide), iv_g_S (by decide)]; exact hX.iv_g, hX.rx_k, by rw [iv_e_S (by decide), iv_e_S (by decide), iv_e_S (by decide), iv_e_S (by decide), iv_e_S (by decide), iv_e_S (by decide)]; exact hX.iv_e⟩
  · intro x hx
    have q := hX.rx_s x hx
    simp only [up_ci (r := 128) (q := 128) (by decide) (by decide), up_S, Nat.reduceEqDiff, true_and, false_and, and_false, if_false, and_true, reduceIte] at q ⊢
    refine ⟨q.1, q.2.1, q.2.2.1, q.2.2.2.1, q.2.2.2.2.1, by split <;> first | rfl | exact q.2.2.2.2.2.1, q.2.2.2.2.2.2.1, by split <;> first | rfl | exact q.2.2.2.2.2.2.2.1, ?_, ?_, by split <;> first | rfl | exact q.2.2.2.2.2.2.2.2.2.2.1, by split <;> first | rfl | exact q.2.2.2.2.2.2.2.2.2.2.2⟩
    · by_cases e : x = s
      · subst e; simp
      · simp only [e, if_false]; exact q.2.2.2.2.2.2.2.2.1
    · by_cases e : x = s
      · subst e; simp
      · simp only [e, if_false]; exact q.2.2.2.2.2.2.2.2.2.1
  · intro x hx
    have q := hX.iv_s x hx
    simp only [xs, up_S, Nat.reduceEqDiff, true_and, false_and, and_false, if_false, and_true, reduceIte] at q ⊢
    refine ⟨by split <;> first | exact Or.inr (Or.inl rfl) | exact q.1, ?_, ?_, by split <;> first | exact vp_in_iff.mpr (by decide) | exact q.2.2.2.1, q.2.2.2.2.1, by split <;> first | exact hb | exact q.2.2.2.2.2.1, q.2.2.2.2.2.2.1, q.2.2.2.2.2.2.2.1, ?_⟩
    · by_cases e : x = s
      · subst e; exact fun g => absurd hl g
      · simp only [e, if_false]; exact q.2.1
    · by_cases e : x = s
      · simp only [e, if_true]; exact hn
      · simp only [e, if_false]; exact q.2.2.1
    · by_cases e : x = s
      · subst e; simp only [if_true]; exact fun _ => ho
      · simp only [e, if_false]; exact q.2.2.2.2.2.2.2.2
  · have q := hX.iv_0
    refine ⟨q.1, q.2.1, q.2.2.1, q.2.2.2.1, fun x h1 h2 => ?_⟩
    have g := q.2.2.2.2 x h1 h2
    have e : ¬ x = s := by omega
    simp only [up_S, Nat.reduceEqDiff, true_and, false_and, and_false, if_false, and_true, reduceIte, e] at g ⊢
    exact g
theorem by_e {S : xa_AH} {s : Nat} : (if S 151 s = 2 then xa_up S 155 s 1 else S) = xa_up S 155 s (if S 151 s = 2 then 1 else S 155 s) := by
  split
  · rfl
  · exact (up_same rfl).symm
theorem np_155 {S : xa_AH} {j : Nat} {v h n b : Int32} : xm_np (xa_up S 155 j v) h n b = xm_np S h n b := rfl
theorem yn_155 {ns : Nat} {S : xa_AH} {j s : Nat} {v h lo hg : Int32} : ∀ i, xm_yn ns (xa_up S 155 j v) h s lo hg i = xm_yn ns S h s lo hg i
  | 0 => rfl
  | i + 1 => by rw [xm_yn, xm_yn, yn_155 i]; rfl
/-- the service yields: what the reference becomes, with its name n -/
theorem yld_e {ns : Nat} {S : xa_AH} {s : Nat} : xm_yld ns S s = xm_yl4 (xa_up (xa_up (xa_up (xa_up (xa_up (xa_up (xa_up S 155 s (if S 151 s = 2 then 1 else S 155 s)) 148 s (if (xm_yn ns S (S 146 s) s (S 133 (xc (S 146 s))) (S 134 (xc (S 146 s))) (xc (S 134 (xc (S 146 s))) - xc (S 133 (xc (S 146 s))))).2 = true then (xm_yn ns S (S 146 s) s (S 133 (xc (S 146 s))) (S 134 (xc (S 146 s))) (xc (S 134 (xc (S 146 s))) - xc (S 133 (xc (S 146 s))))).1 else S 148 s)) 151 s 1) 152 s 3) 153 s (-1)) 154 s (S 154 s + 1)) 130 39 (S 130 39 + 1)) (xc (S 146 s)) := by
  unfold xm_yld
  rw [by_e]
  unfold xm_yl2 xm_yl3
  rw [yn_155]
  rfl
def yf (a b m i : Nat) : Nat := if m + i ≤ b then m + i else m + i - (b - a + 1)
abbrev gw_o (S : xa_AH) (s : Nat) : Nat := xc (S 146 s)
abbrev gw_a (S : xa_AH) (s : Nat) : Nat := xc (S 133 (xc (S 146 s)))
abbrev gw_b (S : xa_AH) (s : Nat) : Nat := xc (S 134 (xc (S 146 s)))
abbrev gw_q (ns : Nat) (S : xa_AH) (s i : Nat) : Int32 × Bool := xm_yn ns S (S 146 s) s (S 133 (xc (S 146 s))) (S 134 (xc (S 146 s))) i
theorem gw_nat {nh ns k : Nat} {pw : Nat → Nat} {L : List Nat} {T : xa_AH} {R : xa_AR} {S : xa_AH} (hX : RX nh ns k pw L T R S) {s : Nat} (hs : s < ns) (hf : S 156 s = 0) : S 133 (xc (S 146 s)) = nI (gw_a S s) ∧ S 134 (xc (S 146 s)) = nI (gw_b S s) ∧ S 148 s = nI (xc (S 148 s)) ∧ 1 ≤ gw_a S s ∧ gw_a S s ≤ xc (S 148 s) ∧ xc (S 148 s) ≤ gw_b S s ∧ gw_b S s ≤ 250 := by
  have ho := hX.hO hs
  have h1 := hX.nm _ ho
  have h2 := hX.ih_nm ho
  have h3 := hX.is_nm hs
  have h4 := hX.is_ow hs hf
  have e1 : S 133 (xc (S 146 s)) = nI (gw_a S s) := xa_in_eq h1.1
  have e2 : S 134 (xc (S 146 s)) = nI (gw_b S s) := xa_in_eq h1.2
  have l1 : gw_a S s < 251 := xa_in_lt h1.1
  have l2 : gw_b S s < 251 := xa_in_lt h1.2
  have h5 : vp_in (S 148 s) 251 := by
    rw [vp_in_iff]
    simp only [fa_le] at h3
    have e : (1 : Int32).toInt = 1 := rfl
    have e' : (250 : Int32).toInt = 250 := rfl
    rw [e, e'] at h3; omega
  have e3 : S 148 s = nI (xc (S 148 s)) := xa_in_eq h5
  have l3 : xc (S 148 s) < 251 := xa_in_lt h5
  refine ⟨e1, e2, e3, ?_, ?_, ?_, by omega⟩
  · have := h2.1
    rw [e1] at this
    exact (nI_leI (a := 1) (by decide) (by omega)).mp this
  · have := h4.1
    rw [e1, e3] at this
    exact (nI_leI (by omega) (by omega)).mp this
  · have := h4.2
    rw [e2, e3] at this
    exact (nI_leI (by omega) (by omega)).mp this
theorem nt_np {nh ns k : Nat} {pw : Nat → Nat} {L : List Nat} {T : xa_AH} {R : xa_AR} {S : xa_AH} (hX : RX nh ns k pw L T R S) {s : Nat} (hs : s < ns) {n : Int32} (hn : ¬ n = S 148 s) : xa_any (cq_nt S (xc (S 146 s)) n) ns = xa_any (xm_np S (S 146 s) n (nI s)) ns := by
  have n12 := hX.n12
  have n32 := hX.n32
  apply xa_any_cong
  intro i hi
  unfold cq_nt xm_np
  by_cases e : i = s
  · subst e
    have : ¬ S 148 i = n := fun g => hn g.symm
    simp [this]
  · have e1 : ¬ nI i = nI s := fun g => e ((nI_eq (by omega) (by omega)).mp g)
    have e2 : (S 146 i = S 146 s) = (xc (S 146 i) = xc (S 146 s)) := propext ⟨fun g => by rw [g], fun g => by rw [hX.hE hi, hX.hE hs, g]⟩
    simp only [e1, e2, decide_false, Bool.not_false, Bool.true_and]
    cases decide (xc (S 146 i) = xc (S 146 s)) <;> cases decide (S 148 i = n) <;> by_cases g : S 151 i = 0 <;> simp [g]
theorem gw_step {nh ns k : Nat} {pw : Nat → Nat} {L : List Nat} {T : xa_AH} {R : xa_AR} {S : xa_AH} (hX : RX nh ns k pw L T R S) {s : Nat} (hs : s < ns) (hf : S 156 s = 0) {i : Nat} (hi : i < gw_b S s - gw_a S s) (h2 : (gw_q ns S s i).2 = false) {nx : Int32} (h1 : nx = (gw_q ns S s i).1) (hx : nx = nI (yf (gw_a S s) (gw_b S s) (xc (S 148 s)) i)) :
    (if nx = S 134 (xc (S 146 s)) then S 133 (xc (S 146 s)) else nx + 1) = nI (yf (gw_a S s) (gw_b S s) (xc (S 148 s)) (i + 1)) ∧ (¬ (if nx = S 134 (xc (S 146 s)) then S 133 (xc (S 146 s)) else nx + 1) = S 148 s) ∧ gw_q ns S s (i + 1) = ((if nx = S 134 (xc (S 146 s)) then S 133 (xc (S 146 s)) else nx + 1), !xa_any (cq_nt S (xc (S 146 s)) (if nx = S 134 (xc (S 146 s)) then S 133 (xc (S 146 s)) else nx + 1)) ns) := by
  obtain ⟨e1, e2, e3, g1, g2, g3, g4⟩ := gw_nat hX hs hf
  have hy : yf (gw_a S s) (gw_b S s) (xc (S 148 s)) i ≤ gw_b S s := by unfold yf; split <;> omega
  have key : (if nx = S 134 (xc (S 146 s)) then S 133 (xc (S 146 s)) else nx + 1) = nI (yf (gw_a S s) (gw_b S s) (xc (S 148 s)) (i + 1)) := by
    have hc : nx = S 134 (xc (S 146 s)) ↔ yf (gw_a S s) (gw_b S s) (xc (S 148 s)) i = gw_b S s := by
      rw [hx, e2, nI_eq (by omega) (by omega)]
    by_cases c : nx = S 134 (xc (S 146 s))
    · rw [if_pos c, e1]
      have c2 := hc.mp c
      congr 1
      unfold yf at c2 ⊢
      split at c2 <;> split <;> omega
    · rw [if_neg c, hx, nI_1]
      have c2 : ¬ yf (gw_a S s) (gw_b S s) (xc (S 148 s)) i = gw_b S s := fun w => c (hc.mpr w)
      congr 1
      unfold yf at c2 hy ⊢
      by_cases u : xc (S 148 s) + i ≤ gw_b S s <;> by_cases v : xc (S 148 s) + (i + 1) ≤ gw_b S s <;> simp only [u, v, if_true, if_false] at c2 hy ⊢ <;> omega
  have ne : ¬ (if nx = S 134 (xc (S 146 s)) then S 133 (xc (S 146 s)) else nx + 1) = S 148 s := by
    rw [key]
    intro g
    have g' : nI (yf (gw_a S s) (gw_b S s) (xc (S 148 s)) (i + 1)) = nI (xc (S 148 s)) := g.trans e3
    have hy2 : yf (gw_a S s) (gw_b S s) (xc (S 148 s)) (i + 1) ≤ gw_b S s := by unfold yf; split <;> omega
    have := (nI_eq (by omega) (by omega)).mp g'
    unfold yf at this
    split at this <;> omega
  refine ⟨key, ne, ?_⟩
  rw [nt_np hX hs ne]
  show xm_ys ns S (S 146 s) s (S 133 (xc (S 146 s))) (S 134 (xc (S 146 s))) (gw_q ns S s i) = _
  unfold xm_ys
  rw [h2, ← h1]
  rfl
theorem gw_anew {nh ns k : Nat} {pw : Nat → Nat} {L : List Nat} {T : xa_AH} {R : xa_AR} {S : xa_AH} (hX : RX nh ns k pw L T R S) {s : Nat} (hs : s < ns) (hl : ¬ S 151 s = 0) (hf : S 156 s = 0) {n : Int32} (hn : 1 ≤ n ∧ n ≤ 250) (ho : S 133 (xc (S 146 s)) ≤ n ∧ n ≤ S 134 (xc (S 146 s))) : RX nh ns k pw L (sx_anew T s n) R (xa_up (xa_up (xa_up (xa_up (xa_up (xa_up S 155 s (if S 151 s = 2 then 1 else S 155 s)) 148 s n) 151 s 1) 152 s 3) 153 s (-1)) 154 s (S 154 s + 1)) := by
  have hb : sx_bye T s = (if S 151 s = 2 then 1 else S 155 s) := by
    unfold sx_bye
    rw [hX.s_hasBye hs, hX.s_state hs]
    rcases hX.is_by hs with g | g
    · simp [g]
    · simp [g]
  have h0 : S 137 (xc (S 146 s)) = 0 := Classical.byContradiction (fun g => hl (hX.is_lv hs g))
  unfold sx_anew
  rw [hb, hX.s_yielded hs]
  refine rx_anew0 hX hs ?_ hn ho h0
  split
  · exact Or.inr rfl
  · exact hX.is_by hs
theorem gw_rng {nh ns k : Nat} {pw : Nat → Nat} {L : List Nat} {T : xa_AH} {R : xa_AR} {S : xa_AH} (hX : RX nh ns k pw L T R S) {s : Nat} (hs : s < ns) (hf : S 156 s = 0) : ∀ i, i ≤ gw_b S s - gw_a S s → ((gw_q ns S s i).2 = false ∧ (gw_q ns S s i).1 = nI (yf (gw_a S s) (gw_b S s) (xc (S 148 s)) i)) ∨ ((gw_q ns S s i).2 = true ∧ ∃ j, j ≤ gw_b S s - gw_a S s ∧ (gw_q ns S s i).1 = nI (yf (gw_a S s) (gw_b S s) (xc (S 148 s)) j))
  | 0, _ => Or.inl ⟨rfl, by
      obtain ⟨e1, e2, e3, g1, g2, g3, g4⟩ := gw_nat hX hs hf
      show S 148 s = _
      have : yf (gw_a S s) (gw_b S s) (xc (S 148 s)) 0 = xc (S 148 s) := by unfold yf; rw [if_pos (by omega)]; rfl
      rw [this]; exact e3⟩
  | i + 1, hi => by
      rcases gw_rng hX hs hf i (by omega) with ⟨g1, g2⟩ | ⟨g1, j, hj, g2⟩
      · have st := gw_step hX hs hf (by omega) g1 (nx := (gw_q ns S s i).1) rfl g2
        cases hb : (gw_q ns S s (i + 1)).2 with
        | false => left; exact ⟨rfl, by rw [st.2.2]; exact st.1⟩
        | true => right; exact ⟨rfl, i + 1, hi, by rw [st.2.2]; exact st.1⟩
      · right
        have e : gw_q ns S s (i + 1) = gw_q ns S s i := xm_yn_stay g1 (i + 1) (by omega)
        rw [e]; exact ⟨g1, j, hj, g2⟩
theorem gw_ok {nh ns k : Nat} {pw : Nat → Nat} {L : List Nat} {T : xa_AH} {R : xa_AR} {S : xa_AH} (hX : RX nh ns k pw L T R S) {s : Nat} (hs : s < ns) (hf : S 156 s = 0) {n : Int32} (hn : n = if (gw_q ns S s (gw_b S s - gw_a S s)).2 = true then (gw_q ns S s (gw_b S s - gw_a S s)).1 else S 148 s) : (1 ≤ n ∧ n ≤ 250) ∧ (S 133 (xc (S 146 s)) ≤ n ∧ n ≤ S 134 (xc (S 146 s))) := by
  obtain ⟨e1, e2, e3, g1, g2, g3, g4⟩ := gw_nat hX hs hf
  have key : ∃ y, gw_a S s ≤ y ∧ y ≤ gw_b S s ∧ n = nI y := by
    rcases gw_rng hX hs hf _ (Nat.le_refl _) with ⟨c1, c2⟩ | ⟨c1, j, hj, c2⟩
    · rw [c1] at hn
      exact ⟨xc (S 148 s), g2, g3, hn.trans e3⟩
    · rw [if_pos c1] at hn
      refine ⟨yf (gw_a S s) (gw_b S s) (xc (S 148 s)) j, ?_, ?_, hn.trans c2⟩ <;> (unfold yf; split <;> omega)
  obtain ⟨y, y1, y2, rfl⟩ := key
  refine ⟨⟨?_, ?_⟩, ?_, ?_⟩
  · exact (nI_leI (a := 1) (by decide) (by omega)).mpr (by omega)
  · exact (nI_leI (b := 250) (by omega) (by decide)).mpr (by omega)
  · rw [e1]; exact (nI_leI (by omega) (by omega)).mpr y1
  · rw [e2]; exact (nI_leI (by omega) (by omega)).mpr y2
set_option maxHeartbeats 4000000 in
theorem lx_gw80 (E : xa_EV) {L : List Nat} {T : xa_AH} {R : xa_AR} {nh ns k : Nat} {pw : Nat → Nat} {S : xa_AH} (hX : RX nh ns k pw L T R S) {s : Nat} (hs : s < ns) (hl : ¬ S 151 s = 0) (hf : S 156 s = 0) {ch : Int32} (hch0 : ch = if (gw_q ns S s (gw_b S s - gw_a S s)).2 = true then (gw_q ns S s (gw_b S s - gw_a S s)).1 else S 148 s) : xa_W E mX7_giveWay (xa_Z E mX7_giveWay L (PF nh ns k pw L T R (xm_yld ns S s))) 0 0 80 [some (.ref (ci 0 129)), some (.ref (ci s 128)), some (.ref (ci (xc (S 146 s)) 0)), some (.int ch), none, none] [] L T R := by
  have n12 := hX.n12
  have n32 := hX.n32
  obtain ⟨hn, hch⟩ := gw_ok hX hs hf hch0
  refine xa_aload_n (pc := 80) dX7_giveWay_80 rfl ?_
  refine xa_iload_n (pc := 81) dX7_giveWay_81 rfl ?_
  refine xa_callV (pc := 82) (hX.sM hs) (kd_128 _) rfl lcX7_470 dX7_giveWay_82 (cx_claimAnew E (hX.sM hs) _) rfl rfl (by decide) (Nat.le_of_ble_eq_true rfl) (by decide) ?_
  rintro _ _ _ ⟨rfl, rfl, rfl⟩
  have hA := gw_anew hX hs hl hf hn hch
  refine xa_aload_n (pc := 85) dX7_giveWay_85 rfl ?_
  refine xa_dup (pc := 86) dX7_giveWay_86 rfl ?_
  refine xa_getIv (pc := 87) 7 8 _ lfX7_232 dX7_giveWay_87 hX.c_m129 (kd_129 _) rfl hA.g_yields ?_
  refine xa_iconst (pc := 90) (v := 1) dX7_giveWay_90 (by decide) ?_
  refine xa_iadd (pc := 91) dX7_giveWay_91 ?_
  refine xa_putI (pc := 92) 7 8 lpX7_232 dX7_giveWay_92 hX.c_m129 (kd_129 _) rfl rfl rfl ?_
  have hB := rx_cyields hA (v := S 130 39 + 1)
  refine xa_aload_n (pc := 95) dX7_giveWay_95 rfl ?_
  refine xa_aload_n (pc := 96) dX7_giveWay_96 rfl ?_
  refine xa_callV (pc := 97) hX.c_m129 (kd_129 _) rfl lcX7_118 dX7_giveWay_97 (cx_rouse E hB (hX.hO hs)) rfl rfl (by decide) (Nat.le_of_ble_eq_true rfl) (by decide) ?_
  rintro _ _ _ ⟨rfl, rfl, hC, hfl⟩
  exact xa_vret dX7_giveWay_100 rfl ⟨rfl, rfl, by rw [yld_e, ← hch0]; exact hC, fl_tr (fl_up (fl_up (fl_up (fl_up (fl_up (fl_up fl_rf (by decide) (by decide)) (by decide) (by decide)) (by decide) (by decide)) (by decide) (by decide)) (by decide) (by decide)) (by decide) (by decide)) hfl⟩
set_option maxHeartbeats 4000000 in
theorem lx_gw22 (E : xa_EV) {L : List Nat} {T : xa_AH} {R : xa_AR} {nh ns k : Nat} {pw : Nat → Nat} {S : xa_AH} (hX : RX nh ns k pw L T R S) {s : Nat} (hs : s < ns) (hl : ¬ S 151 s = 0) (hf : S 156 s = 0) : ∀ i, i ≤ gw_b S s - gw_a S s → ∀ nx ch : Int32, (((gw_q ns S s i).2 = false ∧ nx = (gw_q ns S s i).1 ∧ ch = S 148 s ∧ nx = nI (yf (gw_a S s) (gw_b S s) (xc (S 148 s)) i)) ∨ ((gw_q ns S s i).2 = true ∧ ch = (gw_q ns S s i).1 ∧ ¬ ch = S 148 s)) → xa_W E mX7_giveWay (xa_Z E mX7_giveWay L (PF nh ns k pw L T R (xm_yld ns S s))) 0 0 22 [some (.ref (ci 0 129)), some (.ref (ci s 128)), some (.ref (ci (xc (S 146 s)) 0)), some (.int ch), some (.int nx), some (.int (nI (gw_a S s + i)))] [] L T R := by
  have n12 := hX.n12
  have n32 := hX.n32
  obtain ⟨e1, e2, e3, g1, g2, g3, g4⟩ := gw_nat hX hs hf
  refine xa_dn (fun i hi ih => ?_)
  intro nx ch hI
  refine xa_iload (pc := 22) dX7_giveWay_22 rfl ?_
  refine xa_aload_n (pc := 24) dX7_giveWay_24 rfl ?_
  refine xa_getIv (pc := 25) 3 2 _ lfX7_467 dX7_giveWay_25 ((hX.hS (hX.hO hs)).1 0 (by decide)) (kd_0 _) rfl (hX.h_to (hX.hO hs)) ?_
  refine xa_icmpN_ge (pc := 28) 80 (gw_a S s + i) (gw_b S s) dX7_giveWay_28 (by decide) rfl e2 (by omega) (by omega) (fun h28 => ?_) (fun h28 => ?_)
  · have g28 : ¬ ((gw_a S s + i) < (gw_b S s)) := by omega
    have ei : i = gw_b S s - gw_a S s := by omega
    rcases hI with ⟨c1, c2, c3, c4⟩ | ⟨c1, c2, c3⟩
    · exact xa_fgk (lx_gw80 E hX hs hl hf (by rw [← ei, c1]; exact c3)) (And.intro rfl (And.intro rfl (And.intro rfl (And.intro rfl trivial))))
    · exact xa_fgk (lx_gw80 E hX hs hl hf (by rw [← ei, if_pos c1]; exact c2)) (And.intro rfl (And.intro rfl (And.intro rfl (And.intro rfl trivial))))
  · refine xa_iload_n (pc := 31) dX7_giveWay_31 rfl ?_
    refine xa_aload_n (pc := 32) dX7_giveWay_32 rfl ?_
    refine xa_getIv (pc := 33) 5 5 _ lfX7_201 dX7_giveWay_33 (hX.sM hs) (kd_128 _) rfl (hX.s_name hs) ?_
    refine xa_icmp_ne (pc := 36) 80 dX7_giveWay_36 (by decide) (fun h36 => ?_) (fun h36 => ?_)
    · rcases hI with ⟨c1, c2, c3, c4⟩ | ⟨c1, c2, c3⟩
      · exact absurd c3 h36
      · have e := xm_yn_stay c1 (gw_b S s - gw_a S s) (by omega)
        exact xa_fgk (lx_gw80 E hX hs hl hf (by rw [show gw_q ns S s (gw_b S s - gw_a S s) = gw_q ns S s i from e, if_pos c1]; exact c2)) (And.intro rfl (And.intro rfl (And.intro rfl (And.intro rfl trivial))))
    · rcases hI with ⟨c1, c2, c3, c4⟩ | ⟨c1, c2, c3⟩
      rotate_left
      exact absurd h36 c3
      refine xa_iload (pc := 39) dX7_giveWay_39 rfl ?_
      refine xa_aload_n (pc := 41) dX7_giveWay_41 rfl ?_
      refine xa_getIv (pc := 42) 3 2 _ lfX7_467 dX7_giveWay_42 ((hX.hS (hX.hO hs)).1 0 (by decide)) (kd_0 _) rfl (hX.h_to (hX.hO hs)) ?_
      refine xa_icmp_ne (pc := 45) 55 dX7_giveWay_45 (by decide) (fun h45 => ?_) (fun h45 => ?_)
      · refine xa_iload (pc := 55) dX7_giveWay_55 rfl ?_
        refine xa_iconst (pc := 57) (v := 1) dX7_giveWay_57 (by decide) ?_
        refine xa_iadd (pc := 58) dX7_giveWay_58 ?_
        refine xa_istore (pc := 59) dX7_giveWay_59 (by decide) ?_
        refine xa_aload_n (pc := 61) dX7_giveWay_61 rfl ?_
        refine xa_aload_n (pc := 62) dX7_giveWay_62 rfl ?_
        refine xa_iload (pc := 63) dX7_giveWay_63 rfl ?_
        refine xa_callV (pc := 65) hX.c_m129 (kd_129 _) rfl lcX7_253 dX7_giveWay_65 (cx_isNameTaken E hX (hX.hO hs) _) rfl rfl (by decide) (Nat.le_of_ble_eq_true rfl) (by decide) ?_
        rintro _ _ _ ⟨rfl, rfl, rfl⟩
        refine xa_if_ne (pc := 68) 74 dX7_giveWay_68 (by decide) (fun h68 => ?_) (fun h68 => ?_)
        · have h68 := xa_b_n0.mp h68
          refine xa_iinc (pc := 74) (v := nI ((gw_a S s + i) + 1)) dX7_giveWay_74 rfl (by decide) (nI_1 _) ?_
          refine xa_goto (pc := 77) (tgt := 22) dX7_giveWay_77 (by decide) ?_
          have st := gw_step hX hs hf (by omega) c1 c2 c4
          simp only [if_neg h45] at st
          rw [h68] at st
          exact xa_fgk (ih (by omega) _ _ (Or.inl ⟨by rw [st.2.2]; rfl, by rw [st.2.2], c3, st.1⟩)) (And.intro rfl (And.intro rfl (And.intro rfl (And.intro rfl (And.intro rfl (And.intro rfl trivial))))))
        · have h68 := xa_b_0.mp h68
          refine xa_iload (pc := 71) dX7_giveWay_71 rfl ?_
          refine xa_istore_n (pc := 73) dX7_giveWay_73 (by decide) ?_
          refine xa_iinc (pc := 74) (v := nI ((gw_a S s + i) + 1)) dX7_giveWay_74 rfl (by decide) (nI_1 _) ?_
          refine xa_goto (pc := 77) (tgt := 22) dX7_giveWay_77 (by decide) ?_
          have st := gw_step hX hs hf (by omega) c1 c2 c4
          simp only [if_neg h45] at st
          rw [h68] at st
          exact xa_fgk (ih (by omega) _ _ (Or.inr ⟨by rw [st.2.2]; rfl, by rw [st.2.2], st.2.1⟩)) (And.intro rfl (And.intro rfl (And.intro rfl (And.intro rfl (And.intro rfl (And.intro rfl trivial))))))
      · refine xa_aload_n (pc := 48) dX7_giveWay_48 rfl ?_
        refine xa_getIv (pc := 49) 3 1 _ lfX7_464 dX7_giveWay_49 ((hX.hS (hX.hO hs)).1 0 (by decide)) (kd_0 _) rfl (hX.h_from (hX.hO hs)) ?_
        refine xa_goto (pc := 52) (tgt := 59) dX7_giveWay_52 (by decide) ?_
        refine xa_istore (pc := 59) dX7_giveWay_59 (by decide) ?_
        refine xa_aload_n (pc := 61) dX7_giveWay_61 rfl ?_
        refine xa_aload_n (pc := 62) dX7_giveWay_62 rfl ?_
        refine xa_iload (pc := 63) dX7_giveWay_63 rfl ?_
        refine xa_callV (pc := 65) hX.c_m129 (kd_129 _) rfl lcX7_253 dX7_giveWay_65 (cx_isNameTaken E hX (hX.hO hs) _) rfl rfl (by decide) (Nat.le_of_ble_eq_true rfl) (by decide) ?_
        rintro _ _ _ ⟨rfl, rfl, rfl⟩
        refine xa_if_ne (pc := 68) 74 dX7_giveWay_68 (by decide) (fun h68 => ?_) (fun h68 => ?_)
        · have h68 := xa_b_n0.mp h68
          refine xa_iinc (pc := 74) (v := nI ((gw_a S s + i) + 1)) dX7_giveWay_74 rfl (by decide) (nI_1 _) ?_
          refine xa_goto (pc := 77) (tgt := 22) dX7_giveWay_77 (by decide) ?_
          have st := gw_step hX hs hf (by omega) c1 c2 c4
          simp only [if_pos h45] at st
          rw [h68] at st
          exact xa_fgk (ih (by omega) _ _ (Or.inl ⟨by rw [st.2.2]; rfl, by rw [st.2.2], c3, st.1⟩)) (And.intro rfl (And.intro rfl (And.intro rfl (And.intro rfl (And.intro rfl (And.intro rfl trivial))))))
        · have h68 := xa_b_0.mp h68
          refine xa_iload (pc := 71) dX7_giveWay_71 rfl ?_
          refine xa_istore_n (pc := 73) dX7_giveWay_73 (by decide) ?_
          refine xa_iinc (pc := 74) (v := nI ((gw_a S s + i) + 1)) dX7_giveWay_74 rfl (by decide) (nI_1 _) ?_
          refine xa_goto (pc := 77) (tgt := 22) dX7_giveWay_77 (by decide) ?_
          have st := gw_step hX hs hf (by omega) c1 c2 c4
          simp only [if_pos h45] at st
          rw [h68] at st
          exact xa_fgk (ih (by omega) _ _ (Or.inr ⟨by rw [st.2.2]; rfl, by rw [st.2.2], st.2.1⟩)) (And.intro rfl (And.intro rfl (And.intro rfl (And.intro rfl (And.intro rfl (And.intro rfl trivial))))))
set_option maxHeartbeats 4000000 in
theorem cx_giveWay (E : xa_EV) {L : List Nat} {T : xa_AH} {R : xa_AR} {nh ns k : Nat} {pw : Nat → Nat} {S : xa_AH} (hX : RX nh ns k pw L T R S) {s : Nat} (hs : s < ns) (hl : ¬ S 151 s = 0) (hf : S 156 s = 0)  : xa_Ct E mX7_giveWay [.ref (ci 0 129), .ref (ci s 128)] L T R (PF nh ns k pw L T R (xm_yld ns S s)) := by
  refine xa_Ct.of [some (.ref (ci 0 129)), some (.ref (ci s 128)), none, none, none, none] rfl (Nat.le_of_ble_eq_true rfl) (by simp [Value.category]) rfl ?_
  have n12 := hX.n12
  have n32 := hX.n32
  obtain ⟨e1, e2, e3, g1, g2, g3, g4⟩ := gw_nat hX hs hf
  refine xa_aload_n (pc := 0) dX7_giveWay_0 rfl ?_
  refine xa_getA (pc := 1) 5 1 (ci (xc (S 146 s)) 0) lfX7_106 dX7_giveWay_1 (hX.sM hs) (kd_128 _) rfl (hX.s_host hs) ?_
  refine xa_astore_n (pc := 4) dX7_giveWay_4 (by decide) ?_
  refine xa_aload_n (pc := 5) dX7_giveWay_5 rfl ?_
  refine xa_getIv (pc := 6) 5 5 _ lfX7_201 dX7_giveWay_6 (hX.sM hs) (kd_128 _) rfl (hX.s_name hs) ?_
  refine xa_istore_n (pc := 9) dX7_giveWay_9 (by decide) ?_
  refine xa_aload_n (pc := 10) dX7_giveWay_10 rfl ?_
  refine xa_getIv (pc := 11) 5 5 _ lfX7_201 dX7_giveWay_11 (hX.sM hs) (kd_128 _) rfl (hX.s_name hs) ?_
  refine xa_istore (pc := 14) dX7_giveWay_14 (by decide) ?_
  refine xa_aload_n (pc := 16) dX7_giveWay_16 rfl ?_
  refine xa_getIv (pc := 17) 3 1 _ lfX7_464 dX7_giveWay_17 ((hX.hS (hX.hO hs)).1 0 (by decide)) (kd_0 _) rfl (hX.h_from (hX.hO hs)) ?_
  refine xa_istore (pc := 20) dX7_giveWay_20 (by decide) ?_
  have e0 : yf (gw_a S s) (gw_b S s) (xc (S 148 s)) 0 = xc (S 148 s) := by unfold yf; rw [if_pos (by omega)]; rfl
  exact xa_fgk (lx_gw22 E hX hs hl hf 0 (Nat.zero_le _) _ _ (Or.inl ⟨rfl, rfl, rfl, by rw [e0]; exact e3⟩)) (And.intro rfl (And.intro rfl (And.intro rfl (And.intro rfl (And.intro rfl (And.intro (congrArg (fun z => some (Value.int z)) e1) trivial))))))
