def mvs (S : xa_AH) (a b : Int32) (x : Nat) (T : xa_AH) : xa_AH := xa_up (xa_up T (ci x 0) 7 (if T (ci x 0) 7 = b then a else T (ci x 0) 7)) (ci x 80) 1 (if ¬ S 139 x = 0 ∧ T (ci x 80) 1 = b then a else T (ci x 80) 1)
theorem up_same {T : xa_AH} {a k : Nat} {v : Int32} (h : T a k = v) : xa_up T a k v = T := by
  funext x y; simp only [xa_up]; split
  · next q => rw [q.1, q.2, h]
  · rfl
set_option maxHeartbeats 4000000 in
theorem cx_move0 (E : xa_EV) {L : List Nat} {T : xa_AH} {R : xa_AR} {S : xa_AH} {h : Nat} (hS : cs_h L R h) (h0 : S 139 h = 0) (hb : R (ci h 0) 11 = none) (b a : Int32) : xa_Ct E mX3_move [.ref (ci h 0), .int b, .int a] L T R (xa_pV (mvs S a b h T) R) := by
  refine xa_Ct.of [some (.ref (ci h 0)), some (.int b), some (.int a)] rfl (Nat.le_of_ble_eq_true rfl) (by simp [Value.category]) rfl ?_
  refine xa_aload_n (pc := 0) dX3_move_0 rfl ?_
  refine xa_getI (pc := 1) 3 7 lfX3_46 dX3_move_1 (hS.1 0 (by decide)) (kd_0 _) rfl ?_
  refine xa_iload_n (pc := 4) dX3_move_4 rfl ?_
  refine xa_icmp_ne (pc := 5) 13 dX3_move_5 (by decide) (fun h5 => ?_) (fun h5 => ?_)
  · refine xa_aload_n (pc := 13) dX3_move_13 rfl ?_
    refine xa_getR (pc := 14) 3 11 none lfX3_58 dX3_move_14 (hS.1 0 (by decide)) (kd_0 _) rfl hb ?_
    refine xa_ifnull_null (pc := 17) 39 dX3_move_17 (by decide) ?_
    exact xa_vret dX3_move_39 rfl ⟨rfl, by unfold mvs; rw [if_neg h5, if_neg (fun q => q.1 h0)]; rw [up_same (T := T) (show T (ci h 0) 7 = T (ci h 0) 7 from rfl), up_same (T := T) (show T (ci h 80) 1 = T (ci h 80) 1 from rfl)], rfl⟩
  · refine xa_aload_n (pc := 8) dX3_move_8 rfl ?_
    refine xa_iload_n (pc := 9) dX3_move_9 rfl ?_
    refine xa_putI (pc := 10) 3 7 lpX3_46 dX3_move_10 (hS.1 0 (by decide)) (kd_0 _) rfl rfl rfl ?_
    refine xa_aload_n (pc := 13) dX3_move_13 rfl ?_
    refine xa_getR (pc := 14) 3 11 none lfX3_58 dX3_move_14 (hS.1 0 (by decide)) (kd_0 _) rfl hb ?_
    refine xa_ifnull_null (pc := 17) 39 dX3_move_17 (by decide) ?_
    exact xa_vret dX3_move_39 rfl ⟨rfl, by unfold mvs; rw [if_pos h5, if_neg (fun q => q.1 h0)]; simp only [up_same (show xa_up T (ci h 0) 7 a (ci h 80) 1 = T (ci h 80) 1 from by rw [up_o (ci_ne (by decide) (by decide) (by decide))])], rfl⟩
set_option maxHeartbeats 4000000 in
theorem cx_move1 (E : xa_EV) {L : List Nat} {T : xa_AH} {R : xa_AR} {S : xa_AH} {h : Nat} (hS : cs_h L R h) (h0 : ¬ S 139 h = 0) (hb : R (ci h 0) 11 = some (ci h 80)) (hm : ci h 80 ∈ L) (b a : Int32) : xa_Ct E mX3_move [.ref (ci h 0), .int b, .int a] L T R (xa_pV (mvs S a b h T) R) := by
  refine xa_Ct.of [some (.ref (ci h 0)), some (.int b), some (.int a)] rfl (Nat.le_of_ble_eq_true rfl) (by simp [Value.category]) rfl ?_
  refine xa_aload_n (pc := 0) dX3_move_0 rfl ?_
  refine xa_getI (pc := 1) 3 7 lfX3_46 dX3_move_1 (hS.1 0 (by decide)) (kd_0 _) rfl ?_
  refine xa_iload_n (pc := 4) dX3_move_4 rfl ?_
  refine xa_icmp_ne (pc := 5) 13 dX3_move_5 (by decide) (fun h5 => ?_) (fun h5 => ?_)
  · refine xa_aload_n (pc := 13) dX3_move_13 rfl ?_
    refine xa_getA (pc := 14) 3 11 (ci h 80) lfX3_58 dX3_move_14 (hS.1 0 (by decide)) (kd_0 _) rfl hb ?_
    refine xa_ifnull_ref (pc := 17) dX3_move_17 ?_
    refine xa_aload_n (pc := 20) dX3_move_20 rfl ?_
    refine xa_getA (pc := 21) 3 11 (ci h 80) lfX3_58 dX3_move_21 (hS.1 0 (by decide)) (kd_0 _) rfl hb ?_
    refine xa_getIv (pc := 24) 2 1 (T (ci h 80) 1) lfX3_62 dX3_move_24 hm (kd_80 _) rfl (by first | rfl | (rw [up_o (ci_ne (by decide) (by decide) (by decide))])) ?_
    refine xa_iload_n (pc := 27) dX3_move_27 rfl ?_
    refine xa_icmp_ne (pc := 28) 39 dX3_move_28 (by decide) (fun h28 => ?_) (fun h28 => ?_)
    · exact xa_vret dX3_move_39 rfl ⟨rfl, by unfold mvs; rw [if_neg h5, if_neg (fun q => h28 q.2)]; rw [up_same (T := T) (show T (ci h 0) 7 = T (ci h 0) 7 from rfl), up_same (T := T) (show T (ci h 80) 1 = T (ci h 80) 1 from rfl)], rfl⟩
    · refine xa_aload_n (pc := 31) dX3_move_31 rfl ?_
      refine xa_getA (pc := 32) 3 11 (ci h 80) lfX3_58 dX3_move_32 (hS.1 0 (by decide)) (kd_0 _) rfl hb ?_
      refine xa_iload_n (pc := 35) dX3_move_35 rfl ?_
      refine xa_putI (pc := 36) 2 1 lpX3_62 dX3_move_36 hm (kd_80 _) rfl rfl rfl ?_
      exact xa_vret dX3_move_39 rfl ⟨rfl, by unfold mvs; rw [if_neg h5, if_pos ⟨h0, h28⟩]; rw [up_same (T := T) (show T (ci h 0) 7 = T (ci h 0) 7 from rfl)], rfl⟩
  · refine xa_aload_n (pc := 8) dX3_move_8 rfl ?_
    refine xa_iload_n (pc := 9) dX3_move_9 rfl ?_
    refine xa_putI (pc := 10) 3 7 lpX3_46 dX3_move_10 (hS.1 0 (by decide)) (kd_0 _) rfl rfl rfl ?_
    refine xa_aload_n (pc := 13) dX3_move_13 rfl ?_
    refine xa_getA (pc := 14) 3 11 (ci h 80) lfX3_58 dX3_move_14 (hS.1 0 (by decide)) (kd_0 _) rfl hb ?_
    refine xa_ifnull_ref (pc := 17) dX3_move_17 ?_
    refine xa_aload_n (pc := 20) dX3_move_20 rfl ?_
    refine xa_getA (pc := 21) 3 11 (ci h 80) lfX3_58 dX3_move_21 (hS.1 0 (by decide)) (kd_0 _) rfl hb ?_
    refine xa_getIv (pc := 24) 2 1 (T (ci h 80) 1) lfX3_62 dX3_move_24 hm (kd_80 _) rfl (by first | rfl | (rw [up_o (ci_ne (by decide) (by decide) (by decide))])) ?_
    refine xa_iload_n (pc := 27) dX3_move_27 rfl ?_
    refine xa_icmp_ne (pc := 28) 39 dX3_move_28 (by decide) (fun h28 => ?_) (fun h28 => ?_)
    · exact xa_vret dX3_move_39 rfl ⟨rfl, by unfold mvs; rw [if_pos h5, if_neg (fun q => h28 q.2)]; simp only [up_same (show xa_up T (ci h 0) 7 a (ci h 80) 1 = T (ci h 80) 1 from by rw [up_o (ci_ne (by decide) (by decide) (by decide))])], rfl⟩
    · refine xa_aload_n (pc := 31) dX3_move_31 rfl ?_
      refine xa_getA (pc := 32) 3 11 (ci h 80) lfX3_58 dX3_move_32 (hS.1 0 (by decide)) (kd_0 _) rfl hb ?_
      refine xa_iload_n (pc := 35) dX3_move_35 rfl ?_
      refine xa_putI (pc := 36) 2 1 lpX3_62 dX3_move_36 hm (kd_80 _) rfl rfl rfl ?_
      exact xa_vret dX3_move_39 rfl ⟨rfl, by unfold mvs; rw [if_pos h5, if_pos ⟨h0, h28⟩], rfl⟩
theorem cx_move (E : xa_EV) {L : List Nat} {T T0 : xa_AH} {R : xa_AR} {nh ns k : Nat} {pw : Nat → Nat} {S : xa_AH} (hX : RX nh ns k pw L T0 R S) {h : Nat} (hh : h < nh) (b a : Int32) : xa_Ct E mX3_move [.ref (ci h 0), .int b, .int a] L T R (xa_pV (mvs S a b h T) R) := by
  by_cases h0 : S 139 h = 0
  · exact cx_move0 E (hX.hS hh) h0 (hX.h_br0 hh h0) b a
  · exact cx_move1 E (hX.hS hh) h0 (hX.h_br1 hh h0) (hX.l_br hh h0).1 b a
theorem mv_e {S T : xa_AH} {a b : Int32} : ∀ n x r y, r < 256 → xa_lp (mvs S a b) n T (ci x r) y = if r = 0 ∧ y = 7 ∧ x < n then (if T (ci x 0) 7 = b then a else T (ci x 0) 7) else if r = 80 ∧ y = 1 ∧ x < n then (if ¬ S 139 x = 0 ∧ T (ci x 80) 1 = b then a else T (ci x 80) 1) else T (ci x r) y
  | 0, x, r, y, hr => by rw [xa_lp, if_neg (by omega), if_neg (by omega)]
  | n + 1, x, r, y, hr => by
    rw [xa_lp]
    have i1 := mv_e (S := S) (T := T) (a := a) (b := b) n x r y hr
    have i2 := mv_e (S := S) (T := T) (a := a) (b := b) n n 0 7 (by decide)
    have i3 := mv_e (S := S) (T := T) (a := a) (b := b) n n 80 1 (by decide)
    rw [if_neg (by omega), if_neg (by omega)] at i2 i3
    show xa_up (xa_up (xa_lp (mvs S a b) n T) (ci n 0) 7 _) (ci n 80) 1 _ (ci x r) y = _
    rw [up_ci (by decide) hr, up_ci (by decide) hr, i1, i2, i3]
    by_cases h1 : (r = 80 ∧ y = 1) ∧ x = n
    · rw [if_pos h1, if_neg (show ¬ (r = 0 ∧ y = 7 ∧ x < n + 1) by omega), if_pos (show r = 80 ∧ y = 1 ∧ x < n + 1 by omega), h1.2]
    · rw [if_neg h1]
      by_cases h2 : (r = 0 ∧ y = 7) ∧ x = n
      · rw [if_pos h2, if_pos (show r = 0 ∧ y = 7 ∧ x < n + 1 by omega), h2.2]
      · rw [if_neg h2]
        by_cases h3 : r = 0 ∧ y = 7 ∧ x < n
        · rw [if_pos h3, if_pos (show r = 0 ∧ y = 7 ∧ x < n + 1 by omega)]
        · rw [if_neg h3, if_neg (show ¬ (r = 0 ∧ y = 7 ∧ x < n + 1) by omega)]
          by_cases h4 : r = 80 ∧ y = 1 ∧ x < n
          · rw [if_pos h4, if_pos (show r = 80 ∧ y = 1 ∧ x < n + 1 by omega)]
          · rw [if_neg h4, if_neg (show ¬ (r = 80 ∧ y = 1 ∧ x < n + 1) by omega)]
theorem jo1_e {S : xa_AH} {a b : Int32} : ∀ n x y, xa_lp (xm_jo1 a b) n S x y = if x = 131 ∧ y < n then (if S 131 y = b then a else S 131 y) else if x = 132 ∧ y < n then (if S 132 y = b then a else S 132 y) else S x y
  | 0, x, y => by rw [xa_lp, if_neg (by omega), if_neg (by omega)]
  | n + 1, x, y => by
    rw [xa_lp]
    have i1 := jo1_e (S := S) (a := a) (b := b) n x y
    have i2 := jo1_e (S := S) (a := a) (b := b) n 131 n
    have i3 := jo1_e (S := S) (a := a) (b := b) n 132 n
    rw [if_neg (by omega), if_neg (by omega)] at i2 i3
    show xa_up (xa_up (xa_lp (xm_jo1 a b) n S) 131 n _) 132 n _ x y = _
    rw [up_S, up_S, i1, i2, i3]
    by_cases h1 : x = 132 ∧ y = n
    · rw [if_pos h1, if_neg (show ¬ (x = 131 ∧ y < n + 1) by omega), if_pos (show x = 132 ∧ y < n + 1 by omega), h1.2]
    · rw [if_neg h1]
      by_cases h2 : x = 131 ∧ y = n
      · rw [if_pos h2, if_pos (show x = 131 ∧ y < n + 1 by omega), h2.2]
      · rw [if_neg h2]
        by_cases h3 : x = 131 ∧ y < n
        · rw [if_pos h3, if_pos (show x = 131 ∧ y < n + 1 by omega)]
        · rw [if_neg h3, if_neg (show ¬ (x = 131 ∧ y < n + 1) by omega)]
          by_cases h4 : x = 132 ∧ y < n
          · rw [if_pos h4, if_pos (show x = 132 ∧ y < n + 1 by omega)]
          · rw [if_neg h4, if_neg (show ¬ (x = 132 ∧ y < n + 1) by omega)]
theorem rx_w_mv {nh n : Nat} {L : List Nat} {T : xa_AH} {R : xa_AR} {S : xa_AH} {a b : Int32} (hl : rx_l nh L R S) : rx_w nh (xa_lp (mvs S a b) n T) R S = rx_w nh T R S := by
  induction n with
  | zero => rfl
  | succ n ih => rw [xa_lp, mvs, rx_w_T hl (nlc (by decide) (by decide)), rx_w_T hl (nlc (by decide) (by decide))]; exact ih
theorem rx_p_mv {nh k n : Nat} {pw : Nat → Nat} {L : List Nat} {T : xa_AH} {R : xa_AR} {S : xa_AH} {a b : Int32} (hl : rx_l nh L R S) (hk : rx_k k nh pw) : rx_p k pw (xa_lp (mvs S a b) n T) R S = rx_p k pw T R S := by
  induction n with
  | zero => rfl
  | succ n ih => rw [xa_lp, mvs, rx_p_T hl hk (nlc (by decide) (by decide)), rx_p_T hl hk (nlc (by decide) (by decide))]; exact ih
theorem rx_join {nh ns k : Nat} {pw : Nat → Nat} {L : List Nat} {T : xa_AH} {R : xa_AR} {S : xa_AH} (hX : RX nh ns k pw L T R S) {a b : Int32} (ha : vp_in a 4) (hb : vp_in b 4) : RX nh ns k pw L (xa_lp (mvs S a b) nh T) R (xa_lp (xm_jo1 a b) nh S) := by
  have hS : ∀ c, c ≠ 131 → c ≠ 132 → xa_lp (xm_jo1 a b) nh S c = S c := fun c h1 h2 => by funext y; rw [jo1_e, if_neg (by omega), if_neg (by omega)]
  have hT : ∀ r, r < 256 → r ≠ 0 → r ≠ 80 → ∀ x, xa_lp (mvs S a b) nh T (ci x r) = T (ci x r) := fun r h0 h1 h2 x => by funext y; rw [mv_e nh x r y h0, if_neg (by omega), if_neg (by omega)]
  have bm : ¬ b = -1 := by intro e; rw [e] at hb; have := vp_in_iff.mp hb; have e2 : (-1 : Int32).toInt = -1 := rfl; omega
  have j1 : ∀ x, x < nh → xa_lp (xm_jo1 a b) nh S 131 x = if S 131 x = b then a else S 131 x := fun x hx => by rw [jo1_e, if_pos ⟨rfl, hx⟩]
  have j2 : ∀ x, x < nh → xa_lp (xm_jo1 a b) nh S 132 x = if S 132 x = b then a else S 132 x := fun x hx => by rw [jo1_e, if_neg (by omega), if_pos ⟨rfl, hx⟩]
  refine ⟨hX.rx_c, by rw [rx_l_C (fun a ha => hS a (by omega) (by omega))]; exact hX.rx_l, by rw [rx_g_C (fun r hr h => hT r (by omega) (by omega) (by omega) h) (fun a ha => hS a (by omega) (by omega))]; exact hX.rx_g, ?_, by rw [rx_s_C (fun r hr h => hT r (by omega) (by omega) (by omega) h) (fun a ha => hS a (by omega) (by omega))]; exact hX.rx_s, by rw [rx_r_C (fun r hr h => hT r (by omega) (by omega) (by omega) h) (fun a ha => hS a (by omega) (by omega))]; exact hX.rx_r, by rw [rx_a_C (fun r hr h => hT r (by omega) (by omega) (by omega) h) (fun a ha => hS a (by omega) (by omega))]; exact hX.rx_a, by rw [rx_b_C (fun r hr h => hT r (by omega) (by omega) (by omega) h)]; exact hX.rx_b, by rw [rx_w_C (fun a ha => hS a (by omega) (by omega)), rx_w_mv hX.rx_l]; exact hX.rx_w, by rw [rx_p_C (fun a ha => hS a (by omega) (by omega)), rx_p_mv hX.rx_l hX.rx_k]; exact hX.rx_p, by rw [xm_wf_C (fun a ha => hS a (by omega) (by omega))]; exact hX.xm_wf, ?_, by rw [iv_s_C (fun a ha => hS a (by omega) (by omega))]; exact hX.iv_s, by rw [iv_r_C (fun a ha => hS a (by omega) (by omega))]; exact hX.iv_r, ?_, by rw [iv_g_C (fun a ha => hS a (by omega) (by omega))]; exact hX.iv_g, hX.rx_k, by rw [iv_e_C (fun a ha => hS a (by omega) (by omega))]; exact hX.iv_e⟩
  · intro x hx
    have q := hX.rx_h x hx
    have m : ∀ y, y ≠ 7 → xa_lp (mvs S a b) nh T (ci x 0) y = T (ci x 0) y := fun y hy => by rw [mv_e nh x 0 y (by decide), if_neg (by omega), if_neg (by omega)]
    have m7 : xa_lp (mvs S a b) nh T (ci x 0) 7 = if T (ci x 0) 7 = b then a else T (ci x 0) 7 := by rw [mv_e nh x 0 7 (by decide), if_pos ⟨rfl, rfl, hx⟩]
    have m80 : ¬ S 139 x = 0 → xa_lp (mvs S a b) nh T (ci x 80) 1 = if T (ci x 80) 1 = b then a else T (ci x 80) 1 := fun g => by rw [mv_e nh x 80 1 (by decide), if_neg (by omega), if_pos ⟨rfl, rfl, hx⟩]; simp [g]
    have m80k : xa_lp (mvs S a b) nh T (ci x 80) 0 = T (ci x 80) 0 := by rw [mv_e nh x 80 0 (by decide), if_neg (by omega), if_neg (by omega)]
    rw [m 0 (by decide), m 1 (by decide), m 2 (by decide), m 3 (by decide), m7, m 8 (by decide), m 9 (by decide), m 12 (by decide), m 13 (by decide), m 14 (by decide), m80k, j1 x hx, j2 x hx]
    simp only [xs, hS 133 (by decide) (by decide), hS 134 (by decide) (by decide), hS 135 (by decide) (by decide), hS 136 (by decide) (by decide), hS 137 (by decide) (by decide), hS 138 (by decide) (by decide), hS 139 (by decide) (by decide), hS 140 (by decide) (by decide), hS 141 (by decide) (by decide), hS 142 (by decide) (by decide), hS 143 (by decide) (by decide), hS 144 (by decide) (by decide)]
    refine ⟨q.1, q.2.1, q.2.2.1, q.2.2.2.1, by rw [q.2.2.2.2.1], q.2.2.2.2.2.1, q.2.2.2.2.2.2.1, q.2.2.2.2.2.2.2.1, q.2.2.2.2.2.2.2.2.1, q.2.2.2.2.2.2.2.2.2.1, q.2.2.2.2.2.2.2.2.2.2.1, q.2.2.2.2.2.2.2.2.2.2.2.1, q.2.2.2.2.2.2.2.2.2.2.2.2.1, fun g => ?_, q.2.2.2.2.2.2.2.2.2.2.2.2.2.2.1, q.2.2.2.2.2.2.2.2.2.2.2.2.2.2.2⟩
    rw [m80 g, q.2.2.2.2.2.2.2.2.2.2.2.2.2.1 g]
  · intro x hx
    have q := hX.iv_h x hx
    rw [j1 x hx, j2 x hx]
    simp only [hS 133 (by decide) (by decide), hS 134 (by decide) (by decide), hS 136 (by decide) (by decide), hS 137 (by decide) (by decide), hS 138 (by decide) (by decide), hS 139 (by decide) (by decide), hS 141 (by decide) (by decide), hS 143 (by decide) (by decide), hS 144 (by decide) (by decide)]
    refine ⟨q.1, q.2.1, by split <;> first | exact ha | exact q.2.2.1, fun g => by rw [q.2.2.2.1 g, if_neg (fun e => bm e.symm)], fun g => by split <;> first | exact ha | exact q.2.2.2.2.1 g, fun g => ?_, q.2.2.2.2.2.2.1, q.2.2.2.2.2.2.2.1, q.2.2.2.2.2.2.2.2.1, q.2.2.2.2.2.2.2.2.2⟩
    obtain ⟨p1, p2, p3⟩ := q.2.2.2.2.2.1 g
    rw [j1 _ (xa_in_lt p1), p3]
    exact ⟨p1, p2, rfl⟩
  · have q := hX.iv_0
    refine ⟨fun x h1 h2 => ?_, fun x h1 h2 y hy => ?_, fun x h1 h2 y hy => ?_, fun x h1 h2 => ?_, fun x h1 h2 => ?_⟩
    · simp only [hS 137 (by decide) (by decide), hS 138 (by decide) (by decide), hS 139 (by decide) (by decide), hS 142 (by decide) (by decide), hS 143 (by decide) (by decide), hS 144 (by decide) (by decide)]; exact q.1 x h1 h2
    · simp only [hS 158 (by decide) (by decide), hS 159 (by decide) (by decide), hS 160 (by decide) (by decide), hS 161 (by decide) (by decide), hS 162 (by decide) (by decide), hS 163 (by decide) (by decide)]; exact q.2.1 x h1 h2 y hy
    · simp only [hS 164 (by decide) (by decide), hS 165 (by decide) (by decide), hS 166 (by decide) (by decide)]; exact q.2.2.1 x h1 h2 y hy
    · simp only [rowc, hS 179 (by decide) (by decide), hS 183 (by decide) (by decide), hS 185 (by decide) (by decide), hS 187 (by decide) (by decide)]; exact q.2.2.2.1 x h1 h2
    · simp only [hS 154 (by decide) (by decide), hS 155 (by decide) (by decide), hS 156 (by decide) (by decide)]; exact q.2.2.2.2 x h1 h2
set_option maxHeartbeats 4000000 in
theorem lx_join2 (E : xa_EV) {L : List Nat} {R : xa_AR} {nh ns k : Nat} {pw : Nat → Nat} {S : xa_AH} (a b : Int32) : ∀ x, x ≤ ns → ∀ T U, RX nh ns k pw L T R U → U = xa_lp (xm_jo2 a) x S → xa_W E mX7_join (xa_Z E mX7_join L (PX nh ns k pw L (.int 1) (xa_lp (xm_jo2 a) ns S))) 0 0 50 [some (.ref (ci 0 129)), some (.int a), some (.int b), some (.int (nI x))] [] L T R := by
  refine xa_dn (fun x hx ih => ?_)
  intro T U hX eU
  have n12 := hX.n12
  have n32 := hX.n32
  refine xa_iload_n (pc := 50) dX7_join_50 rfl ?_
  refine xa_aload_n (pc := 51) dX7_join_51 rfl ?_
  refine xa_getIv (pc := 52) 7 3 _ lfX7_103 dX7_join_52 hX.c_m129 (kd_129 _) rfl hX.g_ns ?_
  refine xa_icmpN_ge (pc := 55) 106 x ns dX7_join_55 (by decide) rfl rfl (by omega) (by omega) (fun h55 => ?_) (fun h55 => ?_)
  · have g55 : ¬ (x < ns) := by omega
    refine xa_iconst (pc := 106) (v := 1) dX7_join_106 (by decide) ?_
    have ex : x = ns := by omega
    subst ex
    exact xa_zret dX7_join_107 rfl (by decide) ⟨rfl, by rw [← eU]; exact hX⟩
  · refine xa_aload_n (pc := 58) dX7_join_58 rfl ?_
    refine xa_getA (pc := 59) 7 1 (ci 0 127) lfX7_17 dX7_join_59 hX.c_m129 (kd_129 _) rfl hX.c_r1 ?_
    refine xa_iload_n (pc := 62) dX7_join_62 rfl ?_
    refine xa_aaldS (pc := 63) x (ci x 128) dX7_join_63 hX.c_m127 rfl (by omega) (hX.sA (by omega)) ?_
    refine xa_getIv (pc := 64) 5 7 _ lfX7_59 dX7_join_64 (hX.sM (by omega)) (kd_128 _) rfl (hX.s_state (by omega)) ?_
    refine xa_iconst (pc := 67) (v := 2) dX7_join_67 (by decide) ?_
    refine xa_icmp_ne (pc := 68) 100 dX7_join_68 (by decide) (fun h68 => ?_) (fun h68 => ?_)
    · refine xa_iinc (pc := 100) (v := nI (x + 1)) dX7_join_100 rfl (by decide) (nI_1 _) ?_
      refine xa_goto (pc := 103) (tgt := 50) dX7_join_103 (by decide) ?_
      exact xa_fgk (ih (by omega) _ _ hX (by rw [xa_lp, ← eU, xm_jo2, if_neg (by simp [h55, h68])])) (And.intro rfl (And.intro rfl (And.intro rfl (And.intro rfl trivial))))
    · refine xa_aload_n (pc := 71) dX7_join_71 rfl ?_
      refine xa_getA (pc := 72) 7 1 (ci 0 127) lfX7_17 dX7_join_72 hX.c_m129 (kd_129 _) rfl hX.c_r1 ?_
      refine xa_iload_n (pc := 75) dX7_join_75 rfl ?_
      refine xa_aaldS (pc := 76) x (ci x 128) dX7_join_76 hX.c_m127 rfl (by omega) (hX.sA (by omega)) ?_
      refine xa_getA (pc := 77) 5 1 (ci (xc (U 146 x)) 0) lfX7_106 dX7_join_77 (hX.sM (by omega)) (kd_128 _) rfl (hX.s_host (by omega)) ?_
      refine xa_getIv (pc := 80) 3 7 _ lfX7_88 dX7_join_80 ((hX.hS (hX.hO (by omega))).1 0 (by decide)) (kd_0 _) rfl (hX.h_net (hX.hO (by omega))) ?_
      refine xa_iload_n (pc := 83) dX7_join_83 rfl ?_
      refine xa_icmp_ne (pc := 84) 100 dX7_join_84 (by decide) (fun h84 => ?_) (fun h84 => ?_)
      · refine xa_iinc (pc := 100) (v := nI (x + 1)) dX7_join_100 rfl (by decide) (nI_1 _) ?_
        refine xa_goto (pc := 103) (tgt := 50) dX7_join_103 (by decide) ?_
        exact xa_fgk (ih (by omega) _ _ hX (by rw [xa_lp, ← eU, xm_jo2, if_neg (by simp [h55, h68, h84])])) (And.intro rfl (And.intro rfl (And.intro rfl (And.intro rfl trivial))))
      · refine xa_aload_n (pc := 87) dX7_join_87 rfl ?_
        refine xa_getA (pc := 88) 7 1 (ci 0 127) lfX7_17 dX7_join_88 hX.c_m129 (kd_129 _) rfl hX.c_r1 ?_
        refine xa_iload_n (pc := 91) dX7_join_91 rfl ?_
        refine xa_aaldS (pc := 92) x (ci x 128) dX7_join_92 hX.c_m127 rfl (by omega) (hX.sA (by omega)) ?_
        refine xa_aload_n (pc := 93) dX7_join_93 rfl ?_
        refine xa_getIv (pc := 94) 7 4 _ lfX7_62 dX7_join_94 hX.c_m129 (kd_129 _) rfl hX.g_now ?_
        refine xa_putI (pc := 97) 5 9 lpX7_65 dX7_join_97 (hX.sM (by omega)) (kd_128 _) rfl rfl rfl ?_
        refine xa_iinc (pc := 100) (v := nI (x + 1)) dX7_join_100 rfl (by decide) (nI_1 _) ?_
        refine xa_goto (pc := 103) (tgt := 50) dX7_join_103 (by decide) ?_
        exact xa_fgk (ih (by omega) _ _ (rx_renew hX (by omega)) (by rw [xa_lp, ← eU, xm_jo2, if_pos ⟨h68, h84⟩])) (And.intro rfl (And.intro rfl (And.intro rfl (And.intro rfl trivial))))
set_option maxHeartbeats 4000000 in
theorem lx_join1 (E : xa_EV) {L : List Nat} {R : xa_AR} {nh ns k : Nat} {pw : Nat → Nat} {T0 S : xa_AH} (hX : RX nh ns k pw L T0 R S) {a b : Int32} (ha : vp_in a 4) (hb : vp_in b 4) : ∀ x, x ≤ nh → ∀ T, T = xa_lp (mvs S a b) x T0 → xa_W E mX7_join (xa_Z E mX7_join L (PX nh ns k pw L (.int 1) (xa_lp (xm_jo2 a) ns (xa_lp (xm_jo1 a b) nh S)))) 0 0 23 [some (.ref (ci 0 129)), some (.int a), some (.int b), some (.int (nI x))] [] L T R := by
  have n12 := hX.n12
  have n32 := hX.n32
  refine xa_dn (fun x hx ih => ?_)
  intro T eT
  refine xa_iload_n (pc := 23) dX7_join_23 rfl ?_
  refine xa_aload_n (pc := 24) dX7_join_24 rfl ?_
  refine xa_getIv (pc := 25) 7 2 _ lfX7_25 dX7_join_25 hX.c_m129 (kd_129 _) rfl (show T (ci 0 129) 2 = nI nh from by rw [eT, mv_e x 0 129 2 (by decide), if_neg (by omega), if_neg (by omega)]; exact hX.g_nh) ?_
  refine xa_icmpN_ge (pc := 28) 48 x nh dX7_join_28 (by decide) rfl rfl (by omega) (by omega) (fun h28 => ?_) (fun h28 => ?_)
  · have g28 : ¬ (x < nh) := by omega
    refine xa_iconst (pc := 48) (v := 0) dX7_join_48 (by decide) ?_
    refine xa_istore_n (pc := 49) dX7_join_49 (by decide) ?_
    have ex : x = nh := by omega
    subst ex
    exact lx_join2 E a b 0 (Nat.zero_le _) _ _ (by rw [eT]; exact rx_join hX ha hb) rfl
  · refine xa_aload_n (pc := 31) dX7_join_31 rfl ?_
    refine xa_getA (pc := 32) 7 0 (ci 0 126) lfX7_11 dX7_join_32 hX.c_m129 (kd_129 _) rfl hX.c_r0 ?_
    refine xa_iload_n (pc := 35) dX7_join_35 rfl ?_
    refine xa_aaldH (pc := 36) x (ci x 0) dX7_join_36 hX.c_m126 rfl (by omega) (hX.hA (by omega)) ?_
    refine xa_iload_n (pc := 37) dX7_join_37 rfl ?_
    refine xa_iload_n (pc := 38) dX7_join_38 rfl ?_
    refine xa_callV (pc := 39) ((hX.hS (by omega)).1 0 (by decide)) (kd_0 _) rfl lcX7_165 dX7_join_39 (cx_move E hX (by omega) _ _) rfl rfl (by decide) (Nat.le_of_ble_eq_true rfl) (by decide) ?_
    rintro _ _ _ ⟨rfl, rfl, rfl⟩
    refine xa_iinc (pc := 42) (v := nI (x + 1)) dX7_join_42 rfl (by decide) (nI_1 _) ?_
    refine xa_goto (pc := 45) (tgt := 23) dX7_join_45 (by decide) ?_
    exact xa_fgk (ih (by omega) _ (by rw [xa_lp, ← eT])) (And.intro rfl (And.intro rfl (And.intro rfl (And.intro rfl trivial))))
theorem in4 {x : Int32} (h : xm_in x 0 3 = true) : vp_in x 4 := by
  have h := xm_in_t.mp h
  rw [vp_in_iff]
  simp only [fa_le] at h
  have e : (0 : Int32).toInt = 0 := rfl
  have e1 : (3 : Int32).toInt = 3 := rfl
  rw [e, e1] at h; omega
set_option maxHeartbeats 4000000 in
theorem cx_join (E : xa_EV) {L : List Nat} {T : xa_AH} {R : xa_AR} {nh ns k : Nat} {pw : Nat → Nat} {S : xa_AH} (hX : RX nh ns k pw L T R S) (a b : Int32) : xa_Ct E mX7_join [.ref (ci 0 129), .int a, .int b] L T R (PX nh ns k pw L (.int (xa_b (xm_join nh ns S a b).1)) (xm_join nh ns S a b).2) := by
  refine xa_Ct.of [some (.ref (ci 0 129)), some (.int a), some (.int b), none] rfl (Nat.le_of_ble_eq_true rfl) (by simp [Value.category]) rfl ?_
  have n12 := hX.n12
  have n32 := hX.n32
  refine xa_iload_n (pc := 0) dX7_join_0 rfl ?_
  refine xa_callS (pc := 1) lcX7_21 dX7_join_1 (cx_isNet E _) rfl rfl (by decide) (Nat.le_of_ble_eq_true rfl) (by decide) ?_
  rintro _ _ _ ⟨rfl, rfl, rfl⟩
  refine xa_if_eq (pc := 4) 19 dX7_join_4 (by decide) (fun h4 => ?_) (fun h4 => ?_)
  · have h4 := xa_b_0.mp h4
    refine xa_iconst (pc := 19) (v := 0) dX7_join_19 (by decide) ?_
    rw [show xm_join nh ns S a b = _ from if_neg (by simp [h4])]
    exact xa_zret dX7_join_20 rfl (by decide) ⟨rfl, hX⟩
  · have h4 := xa_b_n0.mp h4
    refine xa_iload_n (pc := 7) dX7_join_7 rfl ?_
    refine xa_callS (pc := 8) lcX7_21 dX7_join_8 (cx_isNet E _) rfl rfl (by decide) (Nat.le_of_ble_eq_true rfl) (by decide) ?_
    rintro _ _ _ ⟨rfl, rfl, rfl⟩
    refine xa_if_eq (pc := 11) 19 dX7_join_11 (by decide) (fun h11 => ?_) (fun h11 => ?_)
    · have h11 := xa_b_0.mp h11
      refine xa_iconst (pc := 19) (v := 0) dX7_join_19 (by decide) ?_
      rw [show xm_join nh ns S a b = _ from if_neg (by simp [h4, h11])]
      exact xa_zret dX7_join_20 rfl (by decide) ⟨rfl, hX⟩
    · have h11 := xa_b_n0.mp h11
      refine xa_iload_n (pc := 14) dX7_join_14 rfl ?_
      refine xa_iload_n (pc := 15) dX7_join_15 rfl ?_
      refine xa_icmp_ne (pc := 16) 21 dX7_join_16 (by decide) (fun h16 => ?_) (fun h16 => ?_)
      · refine xa_iconst (pc := 21) (v := 0) dX7_join_21 (by decide) ?_
        refine xa_istore_n (pc := 22) dX7_join_22 (by decide) ?_
        rw [show xm_join nh ns S a b = _ from if_pos (by simp [h4, h11, h16])]
        exact lx_join1 E hX (in4 h4) (in4 h11) 0 (Nat.zero_le _) _ rfl
      · refine xa_iconst (pc := 19) (v := 0) dX7_join_19 (by decide) ?_
        rw [show xm_join nh ns S a b = _ from if_neg (by simp [h4, h11, h16])]
        exact xa_zret dX7_join_20 rfl (by decide) ⟨rfl, hX⟩
