def xm_an1 (h : Nat) (t : Int32) (s : Nat) (S : xa_AH) : xa_AH := if xm_in (S 163 (32 * h + s)) 0 t = true then xa_up S 163 (32 * h + s) (-1) else S
def xm_ta1 (h wr : Nat) (t : Int32) (s : Nat) (S : xa_AH) : xa_AH := xm_an1 h t s (xm_te1 h wr t s S)
theorem te1_a {h wr s a : Nat} {t : Int32} {S : xa_AH} (h1 : a ≠ 153) (h2 : a < 187) : xm_te1 h wr t s S a = S a := by
  unfold xm_te1; split
  · split
    · rfl
    · rw [up_o (by omega), up_o (by omega), up_o (by omega), up_o (by omega), up_o h1]
  · split
    · rw [up_o (by omega), up_o (by omega), up_o (by omega), up_o (by omega)]
    · rfl
theorem an1_a {h s a : Nat} {t : Int32} {S : xa_AH} (h1 : a ≠ 163) : xm_an1 h t s S a = S a := by
  unfold xm_an1; split
  · exact up_o h1
  · rfl
theorem te_wt1 {h wr s : Nat} {t : Int32} {S : xa_AH} (hd : xm_in (S 163 (32 * h + s)) 0 t = true) : xm_te1 h wr t s S = xm_wt h wr t (S 138 h) s S := by
  unfold xm_te1 xm_wt
  by_cases g : xm_spk S h s = true
  · rw [if_pos g, if_pos g]
    by_cases g2 : S 151 s = 2
    · rw [if_neg (by simp [g2, hd]), if_pos g2]
    · rw [if_pos (Or.inl g2), if_neg g2]
  · rw [if_neg g, if_neg g]
    simp only [hd, true_and]
theorem te_wt0 {h wr s : Nat} {t : Int32} {S : xa_AH} (hd : xm_in (S 163 (32 * h + s)) 0 t = false) (h2 : S 151 s = 2) (h3 : S 153 s ≤ t) : xm_te1 h wr t s S = xm_wt h wr t 0 s S := by
  unfold xm_te1 xm_wt
  by_cases g : xm_spk S h s = true
  · rw [if_pos g, if_pos g, if_neg (fun w => w.elim (fun w => w h2) (fun w => w.1 h3)), if_pos h2]
  · rw [if_neg g, if_neg g, if_neg (fun w => by rw [hd] at w; exact absurd w.2.2.1 (by decide)), if_neg (fun w => w.1 rfl)]
theorem te_no {h wr s : Nat} {t : Int32} {S : xa_AH} (hd : xm_in (S 163 (32 * h + s)) 0 t = false) (h2 : ¬ (S 151 s = 2 ∧ S 153 s ≤ t)) : xm_te1 h wr t s S = S := by
  unfold xm_te1
  by_cases g : xm_spk S h s = true
  · rw [if_pos g, if_pos]
    by_cases g2 : S 151 s = 2
    · exact Or.inr ⟨fun w => h2 ⟨g2, w⟩, hd⟩
    · exact Or.inl g2
  · rw [if_neg g, if_neg (fun w => by rw [hd] at w; exact absurd w.2.2.1 (by decide))]
theorem ta_due {h wr s : Nat} {t : Int32} {S : xa_AH} (hd : xm_in (S 163 (32 * h + s)) 0 t = true) : xm_ta1 h wr t s S = xa_up (xm_wt h wr t (S 138 h) s S) 163 (32 * h + s) (-1) := by
  unfold xm_ta1 xm_an1
  rw [te1_a (by decide) (by decide), if_pos hd, te_wt1 hd]
theorem ta_not {h wr s : Nat} {t : Int32} {S : xa_AH} (hd : xm_in (S 163 (32 * h + s)) 0 t = false) : xm_ta1 h wr t s S = xm_te1 h wr t s S := by
  unfold xm_ta1 xm_an1
  rw [te1_a (by decide) (by decide), if_neg (by rw [hd]; decide)]
theorem ta1_a {h wr s a : Nat} {t : Int32} {S : xa_AH} (h1 : a ≠ 153) (h2 : a < 187) (h3 : a ≠ 163) : xm_ta1 h wr t s S a = S a := by
  unfold xm_ta1; rw [an1_a h3, te1_a h1 h2]
/-! the two loops of the reference are the one of the class -/
theorem spk_163 {S : xa_AH} {h s j : Nat} {v : Int32} : xm_spk (xa_up S 163 j v) h s = xm_spk S h s := rfl
theorem te_up {h wr i j : Nat} {t v : Int32} {S : xa_AH} (n : i ≠ j) (hi : i < 32) (hj : j < 32) : xm_te1 h wr t j (xa_up S 163 (32 * h + i) v) = xa_up (xm_te1 h wr t j S) 163 (32 * h + i) v := by
  have e : xa_up S 163 (32 * h + i) v 163 (32 * h + j) = S 163 (32 * h + j) := up_k (by omega)
  have e2 : ∀ a, a ≠ 163 → xa_up S 163 (32 * h + i) v a = S a := fun a ha => up_o ha
  unfold xm_te1
  rw [spk_163, e, e2 151 (by decide), e2 153 (by decide), e2 150 (by decide), e2 148 (by decide), e2 149 (by decide), e2 131 (by decide), e2 138 (by decide), e2 158 (by decide), e2 162 (by decide), e2 159 (by decide), e2 160 (by decide)]
  split
  · split
    · rfl
    · rw [up_comm (a := 163) (b := 153) (by decide), up_comm (a := 163) (b := 187) (by decide), up_comm (a := 163) (b := 188) (by decide), up_comm (a := 163) (b := 189) (by decide), up_comm (a := 163) (b := 190) (by decide)]
  · split
    · rw [up_comm (a := 163) (b := 187) (by decide), up_comm (a := 163) (b := 188) (by decide), up_comm (a := 163) (b := 189) (by decide), up_comm (a := 163) (b := 190) (by decide)]
    · rfl
theorem te_an {h wr i j : Nat} {t : Int32} {S : xa_AH} (n : i ≠ j) (hi : i < 32) (hj : j < 32) : xm_te1 h wr t j (xm_an1 h t i S) = xm_an1 h t i (xm_te1 h wr t j S) := by
  unfold xm_an1
  rw [te1_a (by decide) (by decide)]
  split
  · exact te_up n hi hj
  · rfl
theorem te_lp {h wr j : Nat} {t : Int32} (hj : j < 32) : ∀ n, n ≤ j → ∀ S, xm_te1 h wr t j (xa_lp (xm_an1 h t) n S) = xa_lp (xm_an1 h t) n (xm_te1 h wr t j S)
  | 0, _, S => rfl
  | n + 1, hn, S => by rw [xa_lp, xa_lp, te_an (by omega) (by omega) hj, te_lp hj n (by omega) S]
theorem lp_fuse {α : Type} {f g k : Nat → α → α} {N : Nat} (hk : ∀ i S, k i S = f i (g i S)) (hc : ∀ n, n < N → ∀ S, g n (xa_lp f n S) = xa_lp f n (g n S)) : ∀ n, n ≤ N → ∀ S, xa_lp k n S = xa_lp f n (xa_lp g n S) := by
  intro n
  induction n with
  | zero => intro _ S; rfl
  | succ n ih =>
    intro hn S
    rw [xa_lp, ih (by omega), hk, hc n (by omega)]
    rw [xa_lp, xa_lp]
theorem ta_fuse {h wr : Nat} {t : Int32} (n : Nat) (hn : n ≤ 32) (S : xa_AH) : xa_lp (xm_ta1 h wr t) n S = xa_lp (xm_an1 h t) n (xa_lp (xm_te1 h wr t) n S) :=
  lp_fuse (N := 32) (fun _ _ => by rw [xm_ta1]) (fun m hm S => te_lp hm m (Nat.le_refl _) S) n hn S
theorem wt_a {h wr s a : Nat} {t vb : Int32} {S : xa_AH} (h1 : a ≠ 153) (h2 : a < 187) : xm_wt h wr t vb s S a = S a := by
  unfold xm_wt; split
  · split
    · rw [up_o (by omega), up_o (by omega), up_o (by omega), up_o (by omega), up_o h1]
    · rfl
  · split
    · rw [up_o (by omega), up_o (by omega), up_o (by omega), up_o (by omega)]
    · rfl
set_option maxHeartbeats 4000000 in
theorem lx_wte (E : xa_EV) {L : List Nat} {R : xa_AR} {nh ns h : Nat} {pw : Nat → Nat} {nb : Int32} (hh : h < nh) (t : Int32) {S : xa_AH} : ∀ x, x ≤ ns → ∀ T U, WX nh ns h pw L T R U nb → U = xa_lp (xm_ta1 h (pw h) t) x S → nb = 1 <<< (U 131 h &&& 31) → U 136 h = 2 → U 130 36 = t → xa_W E mX7_writeTellings (xa_Z E mX7_writeTellings L (PWX nh ns h pw L R (xa_lp (xm_ta1 h (pw h) t) ns S) nb)) 0 0 2 [some (.ref (ci 0 129)), some (.ref (ci h 0)), some (.int (nI x)), none, none] [] L T R := by
  refine xa_dn (fun x hx ih => ?_)
  intro T U hW eU hnb ha hnow
  have hX := hW.1
  have n12 := hX.n12
  have n32 := hX.n32
  refine xa_iload_n (pc := 2) dX7_writeTellings_2 rfl ?_
  refine xa_aload_n (pc := 3) dX7_writeTellings_3 rfl ?_
  refine xa_getIv (pc := 4) 7 3 _ lfX7_103 dX7_writeTellings_4 hX.c_m129 (kd_129 _) rfl hX.g_ns ?_
  refine xa_icmpN_ge (pc := 7) 97 x ns dX7_writeTellings_7 (by decide) rfl rfl (by omega) (by omega) (fun h7 => ?_) (fun h7 => ?_)
  · have g7 : ¬ (x < ns) := by omega
    have ex : x = ns := by omega
    subst ex
    exact xa_vret dX7_writeTellings_97 rfl ⟨rfl, rfl, by rw [← eU]; exact hW⟩
  · refine xa_aload_n (pc := 10) dX7_writeTellings_10 rfl ?_
    refine xa_getA (pc := 11) 7 1 (ci 0 127) lfX7_17 dX7_writeTellings_11 hX.c_m129 (kd_129 _) rfl hX.c_r1 ?_
    refine xa_iload_n (pc := 14) dX7_writeTellings_14 rfl ?_
    refine xa_aaldS (pc := 15) x (ci x 128) dX7_writeTellings_15 hX.c_m127 rfl (by omega) (hX.sA (by omega)) ?_
    refine xa_astore_n (pc := 16) dX7_writeTellings_16 (by decide) ?_
    refine xa_aload_n (pc := 17) dX7_writeTellings_17 rfl ?_
    refine xa_getIv (pc := 18) 5 7 _ lfX7_59 dX7_writeTellings_18 (hX.sM (by omega)) (kd_128 _) rfl (hX.s_state (by omega)) ?_
    refine xa_iconst (pc := 21) (v := 2) dX7_writeTellings_21 (by decide) ?_
    refine xa_icmp_ne (pc := 22) 40 dX7_writeTellings_22 (by decide) (fun h22 => ?_) (fun h22 => ?_)
    · refine xa_iconst (pc := 40) (v := 0) dX7_writeTellings_40 (by decide) ?_
      refine xa_istore (pc := 41) dX7_writeTellings_41 (by decide) ?_
      refine xa_aload_n (pc := 43) dX7_writeTellings_43 rfl ?_
      refine xa_getA (pc := 44) 3 6 (ci h 9) lfX7_143 dX7_writeTellings_44 ((hX.hS hh).1 0 (by decide)) (kd_0 _) rfl ((hX.hS hh).2 (0, 6, 9) (by decide)) ?_
      refine xa_iload_n (pc := 47) dX7_writeTellings_47 rfl ?_
      refine xa_aload_n (pc := 48) dX7_writeTellings_48 rfl ?_
      refine xa_getIv (pc := 49) 7 4 _ lfX7_62 dX7_writeTellings_49 hX.c_m129 (kd_129 _) rfl hX.g_now ?_
      refine xa_callV (pc := 52) ((hX.hS hh).1 9 (by decide)) (kd_9 _) rfl lcX7_325 dX7_writeTellings_52 (rq_nisDue E hX hh (s := x) rfl (by omega) _) rfl rfl (by decide) (Nat.le_of_ble_eq_true rfl) (by decide) ?_
      rintro _ _ _ ⟨rfl, rfl, rfl⟩
      refine xa_if_eq (pc := 55) 79 dX7_writeTellings_55 (by decide) (fun h55 => ?_) (fun h55 => ?_)
      · have h55 := xa_b_0.mp h55
        refine xa_iload (pc := 79) dX7_writeTellings_79 rfl ?_
        refine xa_if_eq (pc := 81) 91 dX7_writeTellings_81 (by decide) (fun _ => ?_) (fun hc => absurd hc (by decide))
        refine xa_iinc (pc := 91) (v := nI (x + 1)) dX7_writeTellings_91 rfl (by decide) (nI_1 _) ?_
        refine xa_goto (pc := 94) (tgt := 2) dX7_writeTellings_94 (by decide) ?_
        rw [hnow] at h55
        exact xa_fgk (ih (by omega) _ _ hW (by rw [xa_lp, ← eU, ta_not h55, te_no h55 (fun g => h22 g.1)]) hnb ha hnow) (And.intro rfl (And.intro rfl (And.intro rfl trivial)))
      · have h55 := xa_b_n0.mp h55
        refine xa_aload_n (pc := 58) dX7_writeTellings_58 rfl ?_
        refine xa_aload_n (pc := 59) dX7_writeTellings_59 rfl ?_
        refine xa_aload_n (pc := 60) dX7_writeTellings_60 rfl ?_
        refine xa_aload_n (pc := 61) dX7_writeTellings_61 rfl ?_
        refine xa_getIv (pc := 62) 3 9 _ lfX7_91 dX7_writeTellings_62 ((hX.hS hh).1 0 (by decide)) (kd_0 _) rfl (hX.h_isKeeper hh) ?_
        refine xa_callV (pc := 65) hX.c_m129 (kd_129 _) rfl lcX7_326 dX7_writeTellings_65 (cx_writeTelling E hW hh hnb ha (by omega) _) rfl rfl (by decide) (Nat.le_of_ble_eq_true rfl) (by decide) ?_
        rintro _ _ _ ⟨rfl, rfl, hW2⟩
        refine xa_aload_n (pc := 68) dX7_writeTellings_68 rfl ?_
        refine xa_getA (pc := 69) 3 6 (ci h 9) lfX7_143 dX7_writeTellings_69 ((hX.hS hh).1 0 (by decide)) (kd_0 _) rfl ((hX.hS hh).2 (0, 6, 9) (by decide)) ?_
        refine xa_iload_n (pc := 72) dX7_writeTellings_72 rfl ?_
        refine xa_callV (pc := 73) ((hX.hS hh).1 9 (by decide)) (kd_9 _) rfl lcX7_330 dX7_writeTellings_73 (cx_nremove E (hX.hS hh) (s := x) rfl (by omega)) rfl rfl (by decide) (Nat.le_of_ble_eq_true rfl) (by decide) ?_
        rintro _ _ _ ⟨rfl, rfl, rfl⟩
        refine xa_goto (pc := 76) (tgt := 91) dX7_writeTellings_76 (by decide) ?_
        refine xa_iinc (pc := 91) (v := nI (x + 1)) dX7_writeTellings_91 rfl (by decide) (nI_1 _) ?_
        refine xa_goto (pc := 94) (tgt := 2) dX7_writeTellings_94 (by decide) ?_
        have r2 := rx_ansrem hW2.1 (s := x) hh (by omega)
        have w2 := hW2.base hh r2 (fl_up fl_rf (by decide) (by decide)) (fun a ha => up_o (by omega))
        rw [hnow] at h55 w2
        have es : xa_up (xm_wt h (pw h) t (U 138 h) x U) 163 (32 * h + x) (-1) = xm_ta1 h (pw h) t x U := (ta_due h55).symm
        rw [es] at w2
        exact xa_fgk (ih (by omega) _ _ w2 (by rw [xa_lp, ← eU]) (by rw [ta1_a (by decide) (by decide) (by decide)]; exact hnb) (by rw [ta1_a (by decide) (by decide) (by decide)]; exact ha) (by rw [ta1_a (by decide) (by decide) (by decide)]; exact hnow)) (And.intro rfl (And.intro rfl (And.intro rfl trivial)))
    · refine xa_aload_n (pc := 25) dX7_writeTellings_25 rfl ?_
      refine xa_getIv (pc := 26) 5 9 _ lfX7_65 dX7_writeTellings_26 (hX.sM (by omega)) (kd_128 _) rfl (hX.s_renewal (by omega) (by assumption)) ?_
      refine xa_aload_n (pc := 29) dX7_writeTellings_29 rfl ?_
      refine xa_getIv (pc := 30) 7 4 _ lfX7_62 dX7_writeTellings_30 hX.c_m129 (kd_129 _) rfl hX.g_now ?_
      refine xa_icmp_gt (pc := 33) 40 dX7_writeTellings_33 (by decide) (fun h33 => ?_) (fun h33 => ?_)
      · refine xa_iconst (pc := 40) (v := 0) dX7_writeTellings_40 (by decide) ?_
        refine xa_istore (pc := 41) dX7_writeTellings_41 (by decide) ?_
        refine xa_aload_n (pc := 43) dX7_writeTellings_43 rfl ?_
        refine xa_getA (pc := 44) 3 6 (ci h 9) lfX7_143 dX7_writeTellings_44 ((hX.hS hh).1 0 (by decide)) (kd_0 _) rfl ((hX.hS hh).2 (0, 6, 9) (by decide)) ?_
        refine xa_iload_n (pc := 47) dX7_writeTellings_47 rfl ?_
        refine xa_aload_n (pc := 48) dX7_writeTellings_48 rfl ?_
        refine xa_getIv (pc := 49) 7 4 _ lfX7_62 dX7_writeTellings_49 hX.c_m129 (kd_129 _) rfl hX.g_now ?_
        refine xa_callV (pc := 52) ((hX.hS hh).1 9 (by decide)) (kd_9 _) rfl lcX7_325 dX7_writeTellings_52 (rq_nisDue E hX hh (s := x) rfl (by omega) _) rfl rfl (by decide) (Nat.le_of_ble_eq_true rfl) (by decide) ?_
        rintro _ _ _ ⟨rfl, rfl, rfl⟩
        refine xa_if_eq (pc := 55) 79 dX7_writeTellings_55 (by decide) (fun h55 => ?_) (fun h55 => ?_)
        · have h55 := xa_b_0.mp h55
          refine xa_iload (pc := 79) dX7_writeTellings_79 rfl ?_
          refine xa_if_eq (pc := 81) 91 dX7_writeTellings_81 (by decide) (fun _ => ?_) (fun hc => absurd hc (by decide))
          refine xa_iinc (pc := 91) (v := nI (x + 1)) dX7_writeTellings_91 rfl (by decide) (nI_1 _) ?_
          refine xa_goto (pc := 94) (tgt := 2) dX7_writeTellings_94 (by decide) ?_
          rw [hnow] at h55 h33
          exact xa_fgk (ih (by omega) _ _ hW (by rw [xa_lp, ← eU, ta_not h55, te_no h55 (fun g => absurd h33 (Int32.not_lt.mpr g.2))]) hnb ha hnow) (And.intro rfl (And.intro rfl (And.intro rfl trivial)))
        · have h55 := xa_b_n0.mp h55
          refine xa_aload_n (pc := 58) dX7_writeTellings_58 rfl ?_
          refine xa_aload_n (pc := 59) dX7_writeTellings_59 rfl ?_
          refine xa_aload_n (pc := 60) dX7_writeTellings_60 rfl ?_
          refine xa_aload_n (pc := 61) dX7_writeTellings_61 rfl ?_
          refine xa_getIv (pc := 62) 3 9 _ lfX7_91 dX7_writeTellings_62 ((hX.hS hh).1 0 (by decide)) (kd_0 _) rfl (hX.h_isKeeper hh) ?_
          refine xa_callV (pc := 65) hX.c_m129 (kd_129 _) rfl lcX7_326 dX7_writeTellings_65 (cx_writeTelling E hW hh hnb ha (by omega) _) rfl rfl (by decide) (Nat.le_of_ble_eq_true rfl) (by decide) ?_
          rintro _ _ _ ⟨rfl, rfl, hW2⟩
          refine xa_aload_n (pc := 68) dX7_writeTellings_68 rfl ?_
          refine xa_getA (pc := 69) 3 6 (ci h 9) lfX7_143 dX7_writeTellings_69 ((hX.hS hh).1 0 (by decide)) (kd_0 _) rfl ((hX.hS hh).2 (0, 6, 9) (by decide)) ?_
          refine xa_iload_n (pc := 72) dX7_writeTellings_72 rfl ?_
          refine xa_callV (pc := 73) ((hX.hS hh).1 9 (by decide)) (kd_9 _) rfl lcX7_330 dX7_writeTellings_73 (cx_nremove E (hX.hS hh) (s := x) rfl (by omega)) rfl rfl (by decide) (Nat.le_of_ble_eq_true rfl) (by decide) ?_
          rintro _ _ _ ⟨rfl, rfl, rfl⟩
          refine xa_goto (pc := 76) (tgt := 91) dX7_writeTellings_76 (by decide) ?_
          refine xa_iinc (pc := 91) (v := nI (x + 1)) dX7_writeTellings_91 rfl (by decide) (nI_1 _) ?_
          refine xa_goto (pc := 94) (tgt := 2) dX7_writeTellings_94 (by decide) ?_
          have r2 := rx_ansrem hW2.1 (s := x) hh (by omega)
          have w2 := hW2.base hh r2 (fl_up fl_rf (by decide) (by decide)) (fun a ha => up_o (by omega))
          rw [hnow] at h55 w2
          have es : xa_up (xm_wt h (pw h) t (U 138 h) x U) 163 (32 * h + x) (-1) = xm_ta1 h (pw h) t x U := (ta_due h55).symm
          rw [es] at w2
          exact xa_fgk (ih (by omega) _ _ w2 (by rw [xa_lp, ← eU]) (by rw [ta1_a (by decide) (by decide) (by decide)]; exact hnb) (by rw [ta1_a (by decide) (by decide) (by decide)]; exact ha) (by rw [ta1_a (by decide) (by decide) (by decide)]; exact hnow)) (And.intro rfl (And.intro rfl (And.intro rfl trivial)))
      · refine xa_iconst (pc := 36) (v := 1) dX7_writeTellings_36 (by decide) ?_
        refine xa_goto (pc := 37) (tgt := 41) dX7_writeTellings_37 (by decide) ?_
        refine xa_istore (pc := 41) dX7_writeTellings_41 (by decide) ?_
        refine xa_aload_n (pc := 43) dX7_writeTellings_43 rfl ?_
        refine xa_getA (pc := 44) 3 6 (ci h 9) lfX7_143 dX7_writeTellings_44 ((hX.hS hh).1 0 (by decide)) (kd_0 _) rfl ((hX.hS hh).2 (0, 6, 9) (by decide)) ?_
        refine xa_iload_n (pc := 47) dX7_writeTellings_47 rfl ?_
        refine xa_aload_n (pc := 48) dX7_writeTellings_48 rfl ?_
        refine xa_getIv (pc := 49) 7 4 _ lfX7_62 dX7_writeTellings_49 hX.c_m129 (kd_129 _) rfl hX.g_now ?_
        refine xa_callV (pc := 52) ((hX.hS hh).1 9 (by decide)) (kd_9 _) rfl lcX7_325 dX7_writeTellings_52 (rq_nisDue E hX hh (s := x) rfl (by omega) _) rfl rfl (by decide) (Nat.le_of_ble_eq_true rfl) (by decide) ?_
        rintro _ _ _ ⟨rfl, rfl, rfl⟩
        refine xa_if_eq (pc := 55) 79 dX7_writeTellings_55 (by decide) (fun h55 => ?_) (fun h55 => ?_)
        · have h55 := xa_b_0.mp h55
          refine xa_iload (pc := 79) dX7_writeTellings_79 rfl ?_
          refine xa_if_eq (pc := 81) 91 dX7_writeTellings_81 (by decide) (fun hc => absurd hc (by decide)) (fun _ => ?_)
          refine xa_aload_n (pc := 84) dX7_writeTellings_84 rfl ?_
          refine xa_aload_n (pc := 85) dX7_writeTellings_85 rfl ?_
          refine xa_aload_n (pc := 86) dX7_writeTellings_86 rfl ?_
          refine xa_iconst (pc := 87) (v := 0) dX7_writeTellings_87 (by decide) ?_
          refine xa_callV (pc := 88) hX.c_m129 (kd_129 _) rfl lcX7_326 dX7_writeTellings_88 (cx_writeTelling E hW hh hnb ha (by omega) _) rfl rfl (by decide) (Nat.le_of_ble_eq_true rfl) (by decide) ?_
          rintro _ _ _ ⟨rfl, rfl, hW2⟩
          refine xa_iinc (pc := 91) (v := nI (x + 1)) dX7_writeTellings_91 rfl (by decide) (nI_1 _) ?_
          refine xa_goto (pc := 94) (tgt := 2) dX7_writeTellings_94 (by decide) ?_
          rw [hnow] at h55 h33 hW2
          have es : xm_wt h (pw h) t 0 x U = xm_ta1 h (pw h) t x U := by rw [ta_not h55, te_wt0 h55 h22 (Int32.not_lt.mp h33)]
          rw [es] at hW2
          exact xa_fgk (ih (by omega) _ _ hW2 (by rw [xa_lp, ← eU]) (by rw [ta1_a (by decide) (by decide) (by decide)]; exact hnb) (by rw [ta1_a (by decide) (by decide) (by decide)]; exact ha) (by rw [ta1_a (by decide) (by decide) (by decide)]; exact hnow)) (And.intro rfl (And.intro rfl (And.intro rfl trivial)))
        · have h55 := xa_b_n0.mp h55
          refine xa_aload_n (pc := 58) dX7_writeTellings_58 rfl ?_
          refine xa_aload_n (pc := 59) dX7_writeTellings_59 rfl ?_
          refine xa_aload_n (pc := 60) dX7_writeTellings_60 rfl ?_
          refine xa_aload_n (pc := 61) dX7_writeTellings_61 rfl ?_
          refine xa_getIv (pc := 62) 3 9 _ lfX7_91 dX7_writeTellings_62 ((hX.hS hh).1 0 (by decide)) (kd_0 _) rfl (hX.h_isKeeper hh) ?_
          refine xa_callV (pc := 65) hX.c_m129 (kd_129 _) rfl lcX7_326 dX7_writeTellings_65 (cx_writeTelling E hW hh hnb ha (by omega) _) rfl rfl (by decide) (Nat.le_of_ble_eq_true rfl) (by decide) ?_
          rintro _ _ _ ⟨rfl, rfl, hW2⟩
          refine xa_aload_n (pc := 68) dX7_writeTellings_68 rfl ?_
          refine xa_getA (pc := 69) 3 6 (ci h 9) lfX7_143 dX7_writeTellings_69 ((hX.hS hh).1 0 (by decide)) (kd_0 _) rfl ((hX.hS hh).2 (0, 6, 9) (by decide)) ?_
          refine xa_iload_n (pc := 72) dX7_writeTellings_72 rfl ?_
          refine xa_callV (pc := 73) ((hX.hS hh).1 9 (by decide)) (kd_9 _) rfl lcX7_330 dX7_writeTellings_73 (cx_nremove E (hX.hS hh) (s := x) rfl (by omega)) rfl rfl (by decide) (Nat.le_of_ble_eq_true rfl) (by decide) ?_
          rintro _ _ _ ⟨rfl, rfl, rfl⟩
          refine xa_goto (pc := 76) (tgt := 91) dX7_writeTellings_76 (by decide) ?_
          refine xa_iinc (pc := 91) (v := nI (x + 1)) dX7_writeTellings_91 rfl (by decide) (nI_1 _) ?_
          refine xa_goto (pc := 94) (tgt := 2) dX7_writeTellings_94 (by decide) ?_
          have r2 := rx_ansrem hW2.1 (s := x) hh (by omega)
          have w2 := hW2.base hh r2 (fl_up fl_rf (by decide) (by decide)) (fun a ha => up_o (by omega))
          rw [hnow] at h55 w2
          have es : xa_up (xm_wt h (pw h) t (U 138 h) x U) 163 (32 * h + x) (-1) = xm_ta1 h (pw h) t x U := (ta_due h55).symm
          rw [es] at w2
          exact xa_fgk (ih (by omega) _ _ w2 (by rw [xa_lp, ← eU]) (by rw [ta1_a (by decide) (by decide) (by decide)]; exact hnb) (by rw [ta1_a (by decide) (by decide) (by decide)]; exact ha) (by rw [ta1_a (by decide) (by decide) (by decide)]; exact hnow)) (And.intro rfl (And.intro rfl (And.intro rfl trivial)))
set_option maxHeartbeats 4000000 in
theorem cx_writeTellings (E : xa_EV) {L : List Nat} {T : xa_AH} {R : xa_AR} {nh ns h : Nat} {pw : Nat → Nat} {S : xa_AH} {nb : Int32} (hW : WX nh ns h pw L T R S nb) (hh : h < nh) (hnb : nb = 1 <<< (S 131 h &&& 31)) (ha : S 136 h = 2)  : xa_Ct E mX7_writeTellings [.ref (ci 0 129), .ref (ci h 0)] L T R (PWX nh ns h pw L R (xa_lp (xm_an1 h (S 130 36)) ns (xm_te ns h (pw h) (S 130 36) S)) nb) := by
  refine xa_Ct.of [some (.ref (ci 0 129)), some (.ref (ci h 0)), none, none, none] rfl (Nat.le_of_ble_eq_true rfl) (by simp [Value.category]) rfl ?_
  have hX := hW.1
  have n12 := hX.n12
  have n32 := hX.n32
  unfold xm_te
  refine xa_iconst (pc := 0) (v := 0) dX7_writeTellings_0 (by decide) ?_
  refine xa_istore_n (pc := 1) dX7_writeTellings_1 (by decide) ?_
  rw [← ta_fuse ns hX.n32]
  exact xa_fgk (lx_wte E hh (S 130 36) 0 (Nat.zero_le _) _ _ hW rfl hnb ha rfl) (And.intro rfl (And.intro rfl (And.intro rfl trivial)))
