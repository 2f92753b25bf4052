/-! ===== how the relation is kept ===== -/
theorem up_ci {T : xa_AH} {h r k x q y : Nat} {v : Int32} (hr : r < 256) (hq : q < 256) : xa_up T (ci h r) k v (ci x q) y = if (q = r ∧ y = k) ∧ x = h then v else T (ci x q) y := by
  unfold xa_up
  have e : (ci x q = ci h r ∧ y = k) ↔ ((q = r ∧ y = k) ∧ x = h) := by rw [ci_inj hq hr]; constructor <;> (intro g; simp [g])
  by_cases g : ci x q = ci h r ∧ y = k
  · rw [if_pos g, if_pos (e.mp g)]
  · rw [if_neg g, if_neg (fun q => g (e.mpr q))]
theorem up_S {S : xa_AH} {a j b y : Nat} {v : Int32} : xa_up S a j v b y = if b = a ∧ y = j then v else S b y := rfl
theorem nlc {h r : Nat} (hr : r < 256) (n : r < 16 ∨ 80 ≤ r) : ¬ lcell (ci h r) := by
  unfold lcell ci; rw [Nat.mul_add_mod, Nat.mod_eq_of_lt hr]; omega
theorem lc_out {q a h : Nat} (hq : q = ci h 16 ∨ q = ci h 32 ∨ q = ci h 48 ∨ q = ci h 64) (ha : ¬ lcell a) : a < q ∨ q + 15 < a := by
  unfold lcell at ha; rcases hq with e | e | e | e <;> (subst e; unfold ci; omega)
theorem rl_lt {nh : Nat} {L : List Nat} {R : xa_AR} {S : xa_AH} (hl : rx_l nh L R S) {h : Nat} (hh : h < nh) : lt R h = ci h 16 ∨ lt R h = ci h 32 ∨ lt R h = ci h 48 ∨ lt R h = ci h 64 := by
  rcases (hl h hh).2.2.1 with e | e
  · exact Or.inl e
  · exact Or.inr (Or.inr (Or.inl e))
theorem rl_b {nh : Nat} {L : List Nat} {R : xa_AR} {S : xa_AH} (hl : rx_l nh L R S) {h : Nat} (hh : h < nh) (hb : ¬ S 139 h = 0) : (l2 R h = ci h 16 ∨ l2 R h = ci h 32 ∨ l2 R h = ci h 48 ∨ l2 R h = ci h 64) ∧ (wh R h = ci h 16 ∨ wh R h = ci h 32 ∨ wh R h = ci h 48 ∨ wh R h = ci h 64) ∧ (w2 R h = ci h 16 ∨ w2 R h = ci h 32 ∨ w2 R h = ci h 48 ∨ w2 R h = ci h 64) := by
  have q := (hl h hh).2.2.2.2.1 hb
  rcases q.2.2.2.2.2.2.2.1 with e | e <;> rcases q.2.2.2.2.2.2.2.2 with f | f <;> simp [e.2, f.1, f.2]
theorem rx_w_T {nh : Nat} {L : List Nat} {T : xa_AH} {R : xa_AR} {S : xa_AH} {a j : Nat} {v : Int32} (hl : rx_l nh L R S) (ha : ¬ lcell a) : rx_w nh (xa_up T a j v) R S = rx_w nh T R S := by
  apply propext
  have key : ∀ h, h < nh → ¬ S 139 h = 0 → (lr (xa_up T a j v) (wh R h) S (24 + 2 * h) 0 = lr T (wh R h) S (24 + 2 * h) 0) ∧ (lr (xa_up T a j v) (w2 R h) S (24 + 2 * h + 1) 0 = lr T (w2 R h) S (24 + 2 * h + 1) 0) := fun h hh hb =>
    ⟨lr_T (lc_out (rl_b hl hh hb).2.1 ha), lr_T (lc_out (rl_b hl hh hb).2.2 ha)⟩
  constructor
  · intro g h hh
    refine ⟨(g h hh).1, fun h1 h2 => ?_⟩
    have := (g h hh).2 h1 h2
    rw [(key h hh h1).1, (key h hh h1).2] at this; exact this
  · intro g h hh
    refine ⟨(g h hh).1, fun h1 h2 => ?_⟩
    have := (g h hh).2 h1 h2
    rw [(key h hh h1).1, (key h hh h1).2]; exact this
theorem lc_ne {q a h : Nat} (hq : q = ci h 16 ∨ q = ci h 32 ∨ q = ci h 48 ∨ q = ci h 64) (ha : ¬ lcell a) : q ≠ a := by
  have := lc_out hq ha; omega
theorem rx_p_T {nh k : Nat} {pw : Nat → Nat} {L : List Nat} {T : xa_AH} {R : xa_AR} {S : xa_AH} {a j : Nat} {v : Int32} (hl : rx_l nh L R S) (hk : rx_k k nh pw) (ha : ¬ lcell a) : rx_p k pw (xa_up T a j v) R S = rx_p k pw T R S := by
  apply propext
  have e1 : ∀ i, i < k → lne (xa_up T a j v) (lt R i) = lne T (lt R i) := fun i hi => lne_T (lc_ne (rl_lt hl (Nat.lt_of_lt_of_le hi hk.1)) ha)
  have e2 : ∀ i, i < k → ∀ r, lrow (xa_up T a j v) S i (lt R i) r = lrow T S i (lt R i) r := fun i hi r => lrow_T (lc_out (rl_lt hl (Nat.lt_of_lt_of_le hi hk.1)) ha)
  have e3 : ∀ i, i < k → ¬ S 139 i = 0 → lne (xa_up T a j v) (l2 R i) = lne T (l2 R i) := fun i hi hb => lne_T (lc_ne (rl_b hl (Nat.lt_of_lt_of_le hi hk.1) hb).1 ha)
  have e4 : ∀ i, i < k → ¬ S 139 i = 0 → ∀ r, lrow (xa_up T a j v) S i (l2 R i) r = lrow T S i (l2 R i) r := fun i hi hb r => lrow_T (lc_out (rl_b hl (Nat.lt_of_lt_of_le hi hk.1) hb).1 ha)
  have e5 : ∀ i, i < k → (¬ S 139 i = 0 ∧ lne (xa_up T a j v) (l2 R i) = true) = (¬ S 139 i = 0 ∧ lne T (l2 R i) = true) := fun i hi => propext (by
    constructor
    · rintro ⟨g1, g2⟩; exact ⟨g1, by rw [← e3 i hi g1]; exact g2⟩
    · rintro ⟨g1, g2⟩; exact ⟨g1, by rw [e3 i hi g1]; exact g2⟩)
  constructor
  · intro g i hi
    have q := g i hi
    simp only [e1 i hi, e2 i hi, e5 i hi] at q
    refine ⟨q.1, q.2.1, q.2.2.1, fun h1 h2 => ?_⟩
    have := q.2.2.2 h1 (by rw [e3 i hi h1]; exact h2)
    rw [e4 i hi h1] at this; exact this
  · intro g i hi
    have q := g i hi
    simp only [e1 i hi, e2 i hi, e5 i hi]
    refine ⟨q.1, q.2.1, q.2.2.1, fun h1 h2 => ?_⟩
    rw [e4 i hi h1]
    exact q.2.2.2 h1 (by rw [← e3 i hi h1]; exact h2)
set_option maxHeartbeats 200000 in
theorem rx_lose {nh ns k : Nat} {pw : Nat → Nat} {L : List Nat} {T : xa_AH} {R : xa_AR} {S : xa_AH} (hX : RX nh ns k pw L T R S) {h : Nat} {n : Int32} (hh : h < nh) (hn : vp_in n 101) : RX nh ns k pw L (xa_up T (ci h 0) 12 n) R (xa_up S 143 h n) := by
  refine ⟨hX.rx_c, by rw [rx_l_S (by decide)]; exact hX.rx_l, by rw [rx_g_S (by decide), rx_g_T (by decide) (by decide)]; exact hX.rx_g, ?_, by rw [rx_s_S (by decide), rx_s_T (by decide) (by decide)]; exact hX.rx_s, by rw [rx_r_S (by decide), rx_r_T (by decide) (by decide)]; exact hX.rx_r, by rw [rx_a_S (by decide), rx_a_T (by decide) (by decide)]; exact hX.rx_a, by rw [rx_b_T (by decide) (by decide)]; exact hX.rx_b, by rw [rx_w_S (by decide), rx_w_T hX.rx_l (nlc (by decide) (by decide))]; exact hX.rx_w, by rw [rx_p_S (by decide), rx_p_T hX.rx_l hX.rx_k (nlc (by decide) (by decide))]; exact hX.rx_p, (xm_wf_up hX.xm_wf rfl), ?_, by rw [iv_s_S (by decide)]; exact hX.iv_s, by rw [iv_r_S (by decide)]; exact hX.iv_r, ?_, by rw [iv_g_S (by decide)]; exact hX.iv_g, hX.rx_k, by rw [iv_e_S (by decide)]; exact hX.iv_e⟩
  · intro x hx
    have q := hX.rx_h x hx
    simp only [up_ci (r := 0) (q := 0) (by decide) (by decide), up_ci (r := 0) (q := 80) (by decide) (by decide), xs, up_S, Nat.reduceEqDiff, true_and, false_and, and_false, if_false, and_true, reduceIte] at q ⊢
    refine ⟨q.1, q.2.1, q.2.2.1, q.2.2.2.1, q.2.2.2.2.1, q.2.2.2.2.2.1, q.2.2.2.2.2.2.1, by split <;> first | rfl | exact q.2.2.2.2.2.2.2.1, q.2.2.2.2.2.2.2.2.1, q.2.2.2.2.2.2.2.2.2.1, q.2.2.2.2.2.2.2.2.2.2.1, q.2.2.2.2.2.2.2.2.2.2.2.1, q.2.2.2.2.2.2.2.2.2.2.2.2.1, q.2.2.2.2.2.2.2.2.2.2.2.2.2.1, q.2.2.2.2.2.2.2.2.2.2.2.2.2.2.1, q.2.2.2.2.2.2.2.2.2.2.2.2.2.2.2⟩
  · intro x hx
    have q := hX.iv_h x hx
    simp only [xs, up_S, Nat.reduceEqDiff, true_and, false_and, and_false, if_false, and_true, reduceIte] at q ⊢
    refine ⟨q.1, q.2.1, q.2.2.1, q.2.2.2.1, q.2.2.2.2.1, q.2.2.2.2.2.1, q.2.2.2.2.2.2.1, q.2.2.2.2.2.2.2.1, q.2.2.2.2.2.2.2.2.1, by constructor <;> first | exact (q.2.2.2.2.2.2.2.2.2).1 | exact (q.2.2.2.2.2.2.2.2.2).2 | (split <;> first | exact hn | exact (q.2.2.2.2.2.2.2.2.2).1 | exact (q.2.2.2.2.2.2.2.2.2).2)⟩
  · have q := hX.iv_0
    refine ⟨fun x h1 h2 => ?_, q.2.1, q.2.2.1, q.2.2.2.1, q.2.2.2.2⟩
    have g := q.1 x h1 h2
    have e : ¬ x = h := by omega
    simp only [up_S, Nat.reduceEqDiff, true_and, false_and, and_false, if_false, and_true, reduceIte, e] at g ⊢
    exact g
set_option maxHeartbeats 200000 in
theorem rx_deaf {nh ns k : Nat} {pw : Nat → Nat} {L : List Nat} {T : xa_AH} {R : xa_AR} {S : xa_AH} (hX : RX nh ns k pw L T R S) {h : Nat} {n : Int32} (hh : h < nh) (hn : vp_in n 101) : RX nh ns k pw L (xa_up T (ci h 0) 13 n) R (xa_up S 144 h n) := by
  refine ⟨hX.rx_c, by rw [rx_l_S (by decide)]; exact hX.rx_l, by rw [rx_g_S (by decide), rx_g_T (by decide) (by decide)]; exact hX.rx_g, ?_, by rw [rx_s_S (by decide), rx_s_T (by decide) (by decide)]; exact hX.rx_s, by rw [rx_r_S (by decide), rx_r_T (by decide) (by decide)]; exact hX.rx_r, by rw [rx_a_S (by decide), rx_a_T (by decide) (by decide)]; exact hX.rx_a, by rw [rx_b_T (by decide) (by decide)]; exact hX.rx_b, by rw [rx_w_S (by decide), rx_w_T hX.rx_l (nlc (by decide) (by decide))]; exact hX.rx_w, by rw [rx_p_S (by decide), rx_p_T hX.rx_l hX.rx_k (nlc (by decide) (by decide))]; exact hX.rx_p, (xm_wf_up hX.xm_wf rfl), ?_, by rw [iv_s_S (by decide)]; exact hX.iv_s, by rw [iv_r_S (by decide)]; exact hX.iv_r, ?_, by rw [iv_g_S (by decide)]; exact hX.iv_g, hX.rx_k, by rw [iv_e_S (by decide)]; exact hX.iv_e⟩
  · intro x hx
    have q := hX.rx_h x hx
    simp only [up_ci (r := 0) (q := 0) (by decide) (by decide), up_ci (r := 0) (q := 80) (by decide) (by decide), xs, up_S, Nat.reduceEqDiff, true_and, false_and, and_false, if_false, and_true, reduceIte] at q ⊢
    refine ⟨q.1, q.2.1, q.2.2.1, q.2.2.2.1, q.2.2.2.2.1, q.2.2.2.2.2.1, q.2.2.2.2.2.2.1, q.2.2.2.2.2.2.2.1, by split <;> first | rfl | exact q.2.2.2.2.2.2.2.2.1, q.2.2.2.2.2.2.2.2.2.1, q.2.2.2.2.2.2.2.2.2.2.1, q.2.2.2.2.2.2.2.2.2.2.2.1, q.2.2.2.2.2.2.2.2.2.2.2.2.1, q.2.2.2.2.2.2.2.2.2.2.2.2.2.1, q.2.2.2.2.2.2.2.2.2.2.2.2.2.2.1, q.2.2.2.2.2.2.2.2.2.2.2.2.2.2.2⟩
  · intro x hx
    have q := hX.iv_h x hx
    simp only [xs, up_S, Nat.reduceEqDiff, true_and, false_and, and_false, if_false, and_true, reduceIte] at q ⊢
    refine ⟨q.1, q.2.1, q.2.2.1, q.2.2.2.1, q.2.2.2.2.1, q.2.2.2.2.2.1, q.2.2.2.2.2.2.1, q.2.2.2.2.2.2.2.1, q.2.2.2.2.2.2.2.2.1, by constructor <;> first | exact (q.2.2.2.2.2.2.2.2.2).1 | exact (q.2.2.2.2.2.2.2.2.2).2 | (split <;> first | exact hn | exact (q.2.2.2.2.2.2.2.2.2).1 | exact (q.2.2.2.2.2.2.2.2.2).2)⟩
  · have q := hX.iv_0
    refine ⟨fun x h1 h2 => ?_, q.2.1, q.2.2.1, q.2.2.2.1, q.2.2.2.2⟩
    have g := q.1 x h1 h2
    have e : ¬ x = h := by omega
    simp only [up_S, Nat.reduceEqDiff, true_and, false_and, and_false, if_false, and_true, reduceIte, e] at g ⊢
    exact g
set_option maxHeartbeats 200000 in
theorem rx_keeper {nh ns k : Nat} {pw : Nat → Nat} {L : List Nat} {T : xa_AH} {R : xa_AR} {S : xa_AH} (hX : RX nh ns k pw L T R S) {h : Nat} {v : Int32} (hh : h < nh) (hv : v = 0 ∨ v = 1) : RX nh ns k pw L (xa_up T (ci h 0) 9 v) R (xa_up S 138 h v) := by
  refine ⟨hX.rx_c, by rw [rx_l_S (by decide)]; exact hX.rx_l, by rw [rx_g_S (by decide), rx_g_T (by decide) (by decide)]; exact hX.rx_g, ?_, by rw [rx_s_S (by decide), rx_s_T (by decide) (by decide)]; exact hX.rx_s, by rw [rx_r_S (by decide), rx_r_T (by decide) (by decide)]; exact hX.rx_r, by rw [rx_a_S (by decide), rx_a_T (by decide) (by decide)]; exact hX.rx_a, by rw [rx_b_T (by decide) (by decide)]; exact hX.rx_b, by rw [rx_w_S (by decide), rx_w_T hX.rx_l (nlc (by decide) (by decide))]; exact hX.rx_w, by rw [rx_p_S (by decide), rx_p_T hX.rx_l hX.rx_k (nlc (by decide) (by decide))]; exact hX.rx_p, (xm_wf_up hX.xm_wf rfl), ?_, by rw [iv_s_S (by decide)]; exact hX.iv_s, by rw [iv_r_S (by decide)]; exact hX.iv_r, ?_, by rw [iv_g_S (by decide)]; exact hX.iv_g, hX.rx_k, by rw [iv_e_S (by decide)]; exact hX.iv_e⟩
  · intro x hx
    have q := hX.rx_h x hx
    simp only [up_ci (r := 0) (q := 0) (by decide) (by decide), up_ci (r := 0) (q := 80) (by decide) (by decide), xs, up_S, Nat.reduceEqDiff, true_and, false_and, and_false, if_false, and_true, reduceIte] at q ⊢
    refine ⟨q.1, q.2.1, q.2.2.1, q.2.2.2.1, q.2.2.2.2.1, q.2.2.2.2.2.1, by split <;> first | rfl | exact q.2.2.2.2.2.2.1, q.2.2.2.2.2.2.2.1, q.2.2.2.2.2.2.2.2.1, q.2.2.2.2.2.2.2.2.2.1, q.2.2.2.2.2.2.2.2.2.2.1, q.2.2.2.2.2.2.2.2.2.2.2.1, q.2.2.2.2.2.2.2.2.2.2.2.2.1, q.2.2.2.2.2.2.2.2.2.2.2.2.2.1, q.2.2.2.2.2.2.2.2.2.2.2.2.2.2.1, q.2.2.2.2.2.2.2.2.2.2.2.2.2.2.2⟩
  · intro x hx
    have q := hX.iv_h x hx
    simp only [xs, up_S, Nat.reduceEqDiff, true_and, false_and, and_false, if_false, and_true, reduceIte] at q ⊢
    refine ⟨q.1, q.2.1, q.2.2.1, q.2.2.2.1, q.2.2.2.2.1, q.2.2.2.2.2.1, by split <;> first | exact hv | exact q.2.2.2.2.2.2.1, q.2.2.2.2.2.2.2.1, q.2.2.2.2.2.2.2.2.1, q.2.2.2.2.2.2.2.2.2⟩
  · have q := hX.iv_0
    refine ⟨fun x h1 h2 => ?_, q.2.1, q.2.2.1, q.2.2.2.1, q.2.2.2.2⟩
    have g := q.1 x h1 h2
    have e : ¬ x = h := by omega
    simp only [up_S, Nat.reduceEqDiff, true_and, false_and, and_false, if_false, and_true, reduceIte, e] at g ⊢
    exact g
