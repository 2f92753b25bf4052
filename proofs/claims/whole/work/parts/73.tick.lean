theorem lp_k {f : Nat → xa_AH → xa_AH} {a j : Nat} (h : ∀ i V, f i V a j = V a j) : ∀ n S, xa_lp f n S a j = S a j
  | 0, S => rfl
  | n + 1, S => by rw [xa_lp, h]; exact lp_k h n S
set_option maxHeartbeats 200000 in
/-- the tick is over -/
theorem rx_now {nh ns k : Nat} {pw : Nat → Nat} {L : List Nat} {T : xa_AH} {R : xa_AR} {S : xa_AH} (hX : RX nh ns k pw L T R S) {m : Nat} (hm : S 130 36 = nI m) (hl : m < 30000) : RX nh ns 0 pw L (xa_up T (ci 0 129) 4 (S 130 36 + 1)) R (xa_up S 130 36 (S 130 36 + 1)) := by
  rw [show S 130 36 + 1 = nI (m + 1) by rw [hm, nI_1]]
  refine ⟨hX.rx_c, by rw [rx_l_S (by decide)]; exact hX.rx_l, ?_, by rw [rx_h_S (by decide), rx_h_T (by decide) (by decide)]; exact hX.rx_h, by rw [rx_s_S (by decide), rx_s_T (by decide) (by decide)]; exact hX.rx_s, by rw [rx_r_S (by decide), rx_r_T (by decide) (by decide)]; exact hX.rx_r, by rw [rx_a_S (by decide), rx_a_T (by decide) (by decide)]; exact hX.rx_a, by rw [rx_b_T (by decide) (by decide)]; exact hX.rx_b, by rw [rx_w_S (by decide), rx_w_T hX.rx_l (nlc (by decide) (by decide))]; exact hX.rx_w, fun i hi => absurd hi (Nat.not_lt_zero i), (xm_wf_up hX.xm_wf rfl), by rw [iv_h_S (by decide)]; exact hX.iv_h, by rw [iv_s_S (by decide)]; exact hX.iv_s, by rw [iv_r_S (by decide)]; exact hX.iv_r, by rw [iv_0_S (by decide)]; exact hX.iv_0, ?_, ⟨Nat.zero_le _, hX.rx_k.2⟩, ?_⟩
  · have q := hX.rx_g
    simp only [rx_g, up_ci (r := 129) (q := 129) (by decide) (by decide), up_S, Nat.reduceEqDiff, true_and, false_and, and_false, if_false, and_true, reduceIte] at q ⊢
    exact ⟨q.1, q.2.1, q.2.2.2⟩
  · unfold iv_g; rw [up_s]; exact xa_in_of (by omega) (by decide)
  · intro h hh s hs g
    rw [up_o (by decide)] at g
    have y := hX.iv_e h hh s hs g
    rw [hm, nI_toInt (by omega)] at y
    rw [up_s, up_o (by decide), nI_toInt (by omega)]; omega
/-- one tick -/
def xm_one (nh ns : Nat) (t : Int32) (S : xa_AH) : xa_AH :=
  let S3 := xa_lp (xm_wa1 ns t) nh (xa_up (xa_up (xa_lp (xm_hd1 t) ns S) 130 47 0) 130 43 0)
  xa_up (xa_lp (xm_fgH ns (t + 1)) nh (xa_lp (fun l V => xm_ih nh ns l t V) (xc (S3 130 47)) S3)) 130 36 (t + 1)
def xm_tko (S : xa_AH) (n : Int32) : Bool := xm_in n 1 50 && decide (S 130 36 + n ≤ 30000)
def xm_tks (nh ns : Nat) (n : Nat) (S : xa_AH) : xa_AH := xa_lp (fun _ V => xm_one nh ns (V 130 36) V) n S
def xm_tick (nh ns : Nat) (S : xa_AH) (n : Int32) : Int32 × xa_AH := if xm_tko S n = true then (xm_tks nh ns (xc n) S 130 36, xm_tks nh ns (xc n) S) else (-1, S)
theorem tko_f {S : xa_AH} {n : Int32} (h : n < 1 ∨ 50 < n ∨ ¬ S 130 36 + n ≤ 30000) : ¬ xm_tko S n = true := by
  intro g
  simp only [xm_tko, xm_in, Bool.and_eq_true, decide_eq_true_eq] at g
  simp only [fa_lt, fa_le] at g h
  omega
theorem tko_t {S : xa_AH} {n : Int32} (h1 : ¬ n < 1) (h2 : ¬ 50 < n) (h3 : S 130 36 + n ≤ 30000) : xm_tko S n = true := by
  simp only [xm_tko, xm_in, Bool.and_eq_true, decide_eq_true_eq]
  simp only [fa_lt, fa_le] at h1 h2 h3 ⊢
  omega
theorem tko_n {S : xa_AH} {n : Int32} (g : xm_tko S n = true) : n = nI (xc n) ∧ 1 ≤ xc n ∧ xc n ≤ 50 := by
  simp only [xm_tko, Bool.and_eq_true, decide_eq_true_eq] at g
  obtain ⟨h1, h2⟩ := xm_in_t.mp g.1
  rw [fa_le] at h1 h2
  have e1 : (1 : Int32).toInt = 1 := rfl
  have e2 : (50 : Int32).toInt = 50 := rfl
  rw [e1] at h1; rw [e2] at h2
  have v : vp_in n 51 := vp_in_iff.mpr ⟨by omega, by omega⟩
  have e := xa_in_eq v
  have l : xc n < 51 := xa_in_lt v
  have t : n.toInt = ((xc n : Nat) : Int) := by
    have q := nI_toInt (show xc n < 2 ^ 31 by omega)
    rw [show nI (xc n) = n from e.symm] at q; exact q
  exact ⟨e, by omega, by omega⟩
theorem tko_s {S : xa_AH} {n : Int32} {m : Nat} (hm : S 130 36 = nI m) (hl : m < 30001) (g : xm_tko S n = true) : m + xc n ≤ 30000 := by
  have q := tko_n g
  simp only [xm_tko, Bool.and_eq_true, decide_eq_true_eq] at g
  have y := g.2
  rw [hm, q.1, show nI m + nI (xc n) = nI (m + xc n) from nI_add m (xc n), fa_le, nI_toInt (by omega)] at y
  have e2 : (30000 : Int32).toInt = 30000 := rfl
  rw [e2] at y; omega
def PT (nh ns : Nat) (L : List Nat) (v : Int32) (S : xa_AH) : Option Value → xa_AH → xa_AR → Prop := fun r T2 R2 => some (.int v) = r ∧ ∃ pw2, RX nh ns 0 pw2 L T2 R2 S
set_option maxHeartbeats 4000000 in
theorem lx_tick (E : xa_EV) {L : List Nat} {nh ns m N : Nat} (hN : N ≤ 50) (hm : m + N ≤ 30000) {S : xa_AH} : ∀ x, x ≤ N → ∀ pw T R U, RX nh ns 0 pw L T R U → U = xm_tks nh ns x S → U 130 36 = nI (m + x) → xa_W E mX7_tick (xa_Z E mX7_tick L (PT nh ns L (xm_tks nh ns N S 130 36) (xm_tks nh ns N S))) 0 0 27 [some (.ref (ci 0 129)), some (.int (nI N)), some (.int (nI x))] [] L T R := by
  refine xa_dn (fun x hx ih => ?_)
  intro pw T R U hX eU hnow0
  obtain ⟨t, ht⟩ : ∃ t, t = nI (m + x) := ⟨_, rfl⟩
  have hnow : U 130 36 = t := hnow0.trans ht.symm
  have n12 := hX.n12
  have n32 := hX.n32
  refine xa_iload_n (pc := 27) dX7_tick_27 rfl ?_
  refine xa_iload_n (pc := 28) dX7_tick_28 rfl ?_
  refine xa_icmpN_ge (pc := 29) 64 x N dX7_tick_29 (by decide) rfl rfl (by omega) (by omega) (fun h29 => ?_) (fun h29 => ?_)
  · have g29 : ¬ (x < N) := by omega
    refine xa_aload_n (pc := 64) dX7_tick_64 rfl ?_
    refine xa_getIv (pc := 65) 7 4 _ lfX7_62 dX7_tick_65 hX.c_m129 (kd_129 _) rfl hX.g_now ?_
    have ex : x = N := by omega
    subst ex
    exact xa_zret dX7_tick_68 rfl rfl ⟨by rw [← eU], pw, by rw [← eU]; exact hX⟩
  · refine xa_aload_n (pc := 32) dX7_tick_32 rfl ?_
    refine xa_callV (pc := 33) hX.c_m129 (kd_129 _) rfl lcX7_168 dX7_tick_33 (cx_holdClaimedNames E hX) rfl rfl (by decide) (Nat.le_of_ble_eq_true rfl) (by decide) ?_
    rintro _ _ _ ⟨rfl, rfl, hX⟩
    rw [hnow] at hX
    have e1 : (xa_lp (xm_hd1 t) ns U) 130 36 = t := (congrFun (lp_a (fun i V => hd1_a (by decide) (by decide)) _ _) 36).trans hnow
    refine xa_aload_n (pc := 36) dX7_tick_36 rfl ?_
    refine xa_callV (pc := 37) hX.c_m129 (kd_129 _) rfl lcX7_171 dX7_tick_37 (cx_writeLetters E (RX_47 hX (v := 0)) up_s) rfl rfl (by decide) (Nat.le_of_ble_eq_true rfl) (by decide) ?_
    rintro _ _ _ ⟨rfl, pw2, hX, h47, h36⟩
    rw [show xa_up (xa_lp (xm_hd1 t) ns U) 130 47 0 130 36 = t from (up_k (by decide)).trans e1] at hX h47 h36
    refine xa_aload_n (pc := 40) dX7_tick_40 rfl ?_
    refine xa_callV (pc := 41) hX.c_m129 (kd_129 _) rfl lcX7_174 dX7_tick_41 (cx_hearLetters E hX) rfl rfl (by decide) (Nat.le_of_ble_eq_true rfl) (by decide) ?_
    rintro _ _ _ ⟨rfl, rfl, hX⟩
    rw [h36] at hX
    have pb := hX.pwb nh (Nat.le_refl _)
    rw [show pw2 nh = xc ((xa_lp (xm_wa1 ns t) nh (xa_up (xa_up (xa_lp (xm_hd1 t) ns U) 130 47 0) 130 43 0)) 130 47) by rw [h47]; exact (xc_n (by omega)).symm] at hX
    have e4 := (lp_k (f := fun l V => xm_ih nh ns l t V) (a := 130) (j := 36) (fun i V => ih_36) (xc ((xa_lp (xm_wa1 ns t) nh (xa_up (xa_up (xa_lp (xm_hd1 t) ns U) 130 47 0) 130 43 0)) 130 47)) _).trans h36
    refine xa_aload_n (pc := 44) dX7_tick_44 rfl ?_
    refine xa_callV (pc := 45) hX.c_m129 (kd_129 _) rfl lcX7_177 dX7_tick_45 (cx_forgetWhatEnds E hX) rfl rfl (by decide) (Nat.le_of_ble_eq_true rfl) (by decide) ?_
    rintro _ _ _ ⟨rfl, rfl, hX⟩
    rw [e4] at hX
    have e5 := (congrFun (lp_a (a := 130) (fun i V => fgH_a (ns := ns) (h := i) (t := t + 1) (S := V) (by decide)) nh _) 36).trans e4
    refine xa_aload_n (pc := 48) dX7_tick_48 rfl ?_
    refine xa_dup (pc := 49) dX7_tick_49 rfl ?_
    refine xa_getIv (pc := 50) 7 4 t lfX7_62 dX7_tick_50 hX.c_m129 (kd_129 _) rfl (hX.g_now.trans e5) ?_
    refine xa_iconst (pc := 53) (v := 1) dX7_tick_53 (by decide) ?_
    refine xa_iadd (pc := 54) dX7_tick_54 ?_
    refine xa_putI (pc := 55) 7 4 lpX7_62 dX7_tick_55 hX.c_m129 (kd_129 _) rfl rfl rfl ?_
    refine xa_iinc (pc := 58) (v := nI (x + 1)) dX7_tick_58 rfl (by decide) (nI_1 _) ?_
    refine xa_goto (pc := 61) (tgt := 27) dX7_tick_61 (by decide) ?_
    have hY := rx_now hX (m := m + x) (e5.trans ht) (by omega)
    rw [e5] at hY
    exact xa_fgk (ih (by omega) pw2 _ _ _ hY (by rw [xm_tks, xa_lp, ← xm_tks, ← eU, hnow]; rfl) (by rw [up_s, ht, nI_1]; rfl)) (And.intro rfl (And.intro rfl (And.intro rfl trivial)))
set_option maxHeartbeats 4000000 in
theorem cx_tick (E : xa_EV) {L : List Nat} {T : xa_AH} {R : xa_AR} {nh ns : Nat} {pw : Nat → Nat} {S : xa_AH} (hX : RX nh ns 0 pw L T R S) (n : Int32)  : xa_Ct E mX7_tick [.ref (ci 0 129), .int n] L T R (PT nh ns L (xm_tick nh ns S n).1 (xm_tick nh ns S n).2) := by
  refine xa_Ct.of [some (.ref (ci 0 129)), some (.int n), none] rfl (Nat.le_of_ble_eq_true rfl) (by simp [Value.category]) rfl ?_
  have n12 := hX.n12
  have n32 := hX.n32
  refine xa_iload_n (pc := 0) dX7_tick_0 rfl ?_
  refine xa_iconst (pc := 1) (v := 1) dX7_tick_1 (by decide) ?_
  refine xa_icmp_lt (pc := 2) 23 dX7_tick_2 (by decide) (fun h2 => ?_) (fun h2 => ?_)
  · refine xa_iconst (pc := 23) (v := (-1)) dX7_tick_23 (by decide) ?_
    rw [show xm_tick nh ns S n = _ from if_neg (tko_f (Or.inl h2))]
    exact xa_zret dX7_tick_24 rfl rfl ⟨rfl, pw, hX⟩
  · refine xa_iload_n (pc := 5) dX7_tick_5 rfl ?_
    refine xa_bipush (pc := 6) (v := 50) dX7_tick_6 (by decide) ?_
    refine xa_icmp_gt (pc := 8) 23 dX7_tick_8 (by decide) (fun h8 => ?_) (fun h8 => ?_)
    · refine xa_iconst (pc := 23) (v := (-1)) dX7_tick_23 (by decide) ?_
      rw [show xm_tick nh ns S n = _ from if_neg (tko_f (Or.inr (Or.inl h8)))]
      exact xa_zret dX7_tick_24 rfl rfl ⟨rfl, pw, hX⟩
    · refine xa_aload_n (pc := 11) dX7_tick_11 rfl ?_
      refine xa_getIv (pc := 12) 7 4 _ lfX7_62 dX7_tick_12 hX.c_m129 (kd_129 _) rfl hX.g_now ?_
      refine xa_iload_n (pc := 15) dX7_tick_15 rfl ?_
      refine xa_iadd (pc := 16) dX7_tick_16 ?_
      refine xa_sipush (pc := 17) (v := 30000) dX7_tick_17 (by decide) ?_
      refine xa_icmp_le (pc := 20) 25 dX7_tick_20 (by decide) (fun h20 => ?_) (fun h20 => ?_)
      · refine xa_iconst (pc := 25) (v := 0) dX7_tick_25 (by decide) ?_
        refine xa_istore_n (pc := 26) dX7_tick_26 (by decide) ?_
        have tk := tko_t h2 h8 h20
        obtain ⟨en, n1, n2⟩ := tko_n tk
        rw [show xm_tick nh ns S n = _ from if_pos tk]
        exact xa_fgk (lx_tick E (N := xc n) n2 (tko_s (xa_in_eq hX.iv_g) (xa_in_lt hX.iv_g) tk) 0 (Nat.zero_le _) pw _ _ _ hX rfl (xa_in_eq hX.iv_g)) (And.intro rfl (And.intro (by rw [← en]) (And.intro rfl trivial)))
      · refine xa_iconst (pc := 23) (v := (-1)) dX7_tick_23 (by decide) ?_
        rw [show xm_tick nh ns S n = _ from if_neg (tko_f (Or.inr (Or.inr h20)))]
        exact xa_zret dX7_tick_24 rfl rfl ⟨rfl, pw, hX⟩
