theorem as_a {ns h wr a : Nat} {t : Int32} {S : xa_AH} (ha : a < 150) : xm_as ns h wr t S a = S a := lp_a (fun i V => as1_a ha) _ _
theorem cl_a {ns h wr a : Nat} {S : xa_AH} (ha : a < 150) : xa_lp (xm_cl1 h wr) ns S a = S a := lp_a (fun i V => cl1_a ha) _ _
theorem xs_3 {nh ns h : Nat} {pw : Nat → Nat} {L : List Nat} {T : xa_AH} {R : xa_AR} {S : xa_AH} (hX : RX nh ns h pw L T R S) (hh : h < nh) (g : xs S h = 3) : ¬ S 137 h = 0 ∧ S 136 h = 2 := by
  rcases hX.ih_lv hh with e | e
  · unfold xs at g; rw [if_pos e] at g
    rcases hX.ih_how hh with f | f | f <;> (rw [f] at g; exact absurd g (by decide))
  · exact ⟨by rw [e.1]; decide, e.2⟩
theorem xs_2 {S : xa_AH} {h : Nat} (g : xs S h = 2) : S 137 h = 0 ∧ S 136 h = 2 := by
  unfold xs at g; split at g
  · next e => exact ⟨e, g⟩
  · exact absurd g (by decide)
theorem xs_n {S : xa_AH} {h : Nat} (g3 : ¬ xs S h = 3) (g : ¬ xs S h = 2) : S 137 h = 0 ∧ ¬ S 136 h = 2 := by
  unfold xs at g g3; split at g
  · next e => exact ⟨e, g⟩
  · next e => rw [if_neg e] at g3; exact absurd rfl g3
def WST (nh ns h : Nat) (t : Int32) (L : List Nat) (T : xa_AH) (R : xa_AR) (S : xa_AH) : Prop := ∃ pw2, RX nh ns (h + 1) pw2 L T R S ∧ S 130 47 = nI (pw2 (h + 1)) ∧ S 130 36 = t
theorem wr_36 {S : xa_AH} {wr h : Nat} {net : Int32} : xm_wr S wr h net 130 36 = S 130 36 := by
  unfold xm_wr; split
  · rfl
  · simp [xa_up]
theorem xc_pw {nh ns h : Nat} {pw : Nat → Nat} {L : List Nat} {T : xa_AH} {R : xa_AR} {S : xa_AH} (hX : RX nh ns h pw L T R S) (hh : h < nh) (h47 : S 130 47 = nI (pw h)) : xc (S 130 47) = pw h := by
  have b := hX.pwb h (Nat.le_refl _)
  have n12 := hX.n12
  rw [h47]; exact xc_n (by omega)
theorem st_silent {nh ns h : Nat} {pw : Nat → Nat} {L : List Nat} {T : xa_AH} {R : xa_AR} {S : xa_AH} (hX : RX nh ns h pw L T R S) (hh : h < nh) {t : Int32} (h47 : S 130 47 = nI (pw h)) (hnow : S 130 36 = t) (g : S 137 h = 0 ∧ ¬ S 136 h = 2) : WST nh ns h t L (lx_cls S T R h) R (xm_wa1 ns t h S) := by
  have z := cls_0 hX hh
  obtain ⟨pw2, q1, q2⟩ := RX_silent (RX_cls hX hh (Or.inl rfl)) hh g.1 h47 (lne_0 z.1) (fun c => lne_0 (z.2 c))
  rw [xm_wa1, if_neg g.2]
  exact ⟨pw2, q1, q2, hnow⟩
theorem st_bridge {nh ns h : Nat} {pw : Nat → Nat} {L : List Nat} {T : xa_AH} {R : xa_AR} {S : xa_AH} (hX : RX nh ns h pw L T R S) (hh : h < nh) {t : Int32} (h47 : S 130 47 = nI (pw h)) (hnow : S 130 36 = t) (g : S 137 h = 0 ∧ S 136 h = 2) (hb : ¬ S 139 h = 0) {T2 : xa_AH} {R2 : xa_AR} (hp : (S 131 h = S 132 h ∧ lx_cls S T R h = T2 ∧ R = R2) ∨ (¬ S 131 h = S 132 h ∧ px (px (lx_cls S T R h) h (wh R h) (S 131 h)) h (w2 R h) (S 132 h) = T2 ∧ swR R h = R2)) : WST nh ns h t L T2 R2 (xm_wa1 ns t h S) := by
  have z := cls_0 hX hh
  have b := hX.pwb h (Nat.le_refl _)
  have n12 := hX.n12
  have e47 := xc_pw hX hh h47
  rw [xm_wa1, if_pos g.2, xm_wall, if_neg (fun c => c g.1), if_pos hb, e47]
  rcases hp with ⟨e, rfl, rfl⟩ | ⟨e, rfl, rfl⟩
  · rw [if_pos e]
    obtain ⟨pw2, q1, q2⟩ := RX_silent (RX_cls hX hh (Or.inr rfl)) hh (by rw [clr_a (by decide)]; exact g.1) (by rw [clr_a (by decide)]; exact h47) (lne_0 z.1) (fun c => lne_0 (z.2 (by rw [clr_a (by decide)] at c; exact c)))
    exact ⟨pw2, q1, q2, by rw [clr_a (by decide)]; exact hnow⟩
  · rw [if_neg e]
    obtain ⟨pw2, q1, q2, q3⟩ := RX_carried (RX_cls hX hh (Or.inl rfl)) hh hb (by rw [g.2]; decide) g.1 h47 z.1 (z.2 hb) rfl
    have lw : pw h + (if lne (lx_cls S T R h) (wh R h) = true then 1 else 0) < 24 := by split <;> omega
    rw [q2, xc_n (by omega)]
    refine ⟨pw2, q1, q3, ?_⟩
    unfold xm_tk
    rw [wr_36, (tkC_all (by omega)).1 130 (by decide), clr_a (by decide), wr_36, (tkC_all (by omega)).1 130 (by decide), clr_a (by decide)]
    exact hnow
theorem st_leave {nh ns h : Nat} {pw : Nat → Nat} {L : List Nat} {T : xa_AH} {R : xa_AR} {S : xa_AH} (hX : RX nh ns h pw L T R S) (hh : h < nh) {t : Int32} (h47 : S 130 47 = nI (pw h)) (hnow : S 130 36 = t) (g : ¬ S 137 h = 0 ∧ S 136 h = 2) {T2 : xa_AH} (hW : WX nh ns h pw L T2 R (xm_by ns h (pw h) (xm_clr (pw h) S)) (1 <<< (S 131 h &&& 31))) (hf : lfr (lx_cls S T R h) T2 (lt R h)) : WST nh ns h t L (px (xa_up (xa_up (xa_up (xa_up (xa_up T2 (ci h 0) 8 0) (ci h 0) 9 0) (ci h 1) 4 0) (ci h 6) 2 0) (ci h 9) 1 0) h (lt R h) (xm_gone h (xm_by ns h (pw h) (xm_clr (pw h) S)) 131 h)) R (xm_wa1 ns t h S) := by
  have z := cls_0 hX hh
  have b := hX.pwb h (Nat.le_refl _)
  have n12 := hX.n12
  have e47 := xc_pw hX hh h47
  have f1 : fl T2 (xa_up (xa_up (xa_up (xa_up (xa_up T2 (ci h 0) 8 0) (ci h 0) 9 0) (ci h 1) 4 0) (ci h 6) 2 0) (ci h 9) 1 0) := fl_up (fl_up (fl_up (fl_up (fl_up fl_rf (by decide) (by decide)) (by decide) (by decide)) (by decide) (by decide)) (by decide) (by decide)) (by decide) (by decide)
  have hW2 : WX nh ns h pw L _ R (xm_gone h (xm_by ns h (pw h) (xm_clr (pw h) S))) (1 <<< (S 131 h &&& 31)) := ⟨rx_goAway hW.1 hh, lr_cell (fun d hd => f1 _ (lc_q (lat_lc (lat_lt hX hh)) hd)) (lr_row (gone_row (by omega)) hW.2)⟩
  have ea : ∀ a, a = 130 ∨ a = 131 ∨ a = 139 ∨ a = 142 → xm_gone h (xm_by ns h (pw h) (xm_clr (pw h) S)) a = S a := fun a ha => by rw [gone_a ha, by_a (by omega), clr_a (by omega)]
  obtain ⟨pw2, q1, q2⟩ := RX_done (net := S 131 h) hW2 hh (fun c => by
    rw [ea 139 (by omega)] at c
    have lb := lat_lc (lat_b hX hh c).1
    rw [lne_q ((f1 _ lb.1).trans (hf _ lb.1 (by have y := lat_apart (lat_lt hX hh) (lat_b hX hh c).1 (four hX hh c).1; omega)))]
    exact lne_0 (z.2 c)) gone_137 (by rw [ea 130 (by omega)]; exact h47) rfl (hX.ih_net hh)
  rw [ea 131 (by omega), xm_wa1, if_pos g.2, xm_wall, if_pos g.1, e47]
  rw [gone_wr (by omega)] at q1 q2
  refine ⟨pw2, q1, q2, ?_⟩
  rw [gone_a (by omega), wr_36, by_a (by decide), clr_a (by decide)]
  exact hnow
theorem st_plain {nh ns h : Nat} {pw : Nat → Nat} {L : List Nat} {T : xa_AH} {R : xa_AR} {S : xa_AH} (hX : RX nh ns h pw L T R S) (hh : h < nh) {t : Int32} (h47 : S 130 47 = nI (pw h)) (hnow : S 130 36 = t) (g : S 137 h = 0 ∧ S 136 h = 2) (hb : S 139 h = 0) {T2 : xa_AH} (hW : WX nh ns h pw L T2 R (xm_pl ns h (pw h) t S) (1 <<< (S 131 h &&& 31))) : WST nh ns h t L (px T2 h (lt R h) (xm_pl ns h (pw h) t S 131 h)) R (xm_wa1 ns t h S) := by
  have e47 := xc_pw hX hh h47
  obtain ⟨pw2, q1, q2⟩ := RX_done (net := S 131 h) hW hh (fun c => absurd (by rw [pl_a (by decide)]; exact hb) c) (by rw [pl_a (by decide)]; exact g.1) (by rw [pl_a (by decide)]; exact h47) rfl (hX.ih_net hh)
  rw [pl_a (by decide), xm_wa1, if_pos g.2, xm_wall, if_neg (fun c => c g.1), if_neg (fun c => c hb), e47]
  refine ⟨pw2, q1, q2, ?_⟩
  rw [wr_36]
  exact (congrFun (pl_a (by decide)) 36).trans hnow
def PWL (nh ns : Nat) (t : Int32) (L : List Nat) (S : xa_AH) : Option Value → xa_AH → xa_AR → Prop := fun r T2 R2 => none = r ∧ ∃ pw2, RX nh ns nh pw2 L T2 R2 S ∧ S 130 47 = nI (pw2 nh) ∧ S 130 36 = t
set_option maxHeartbeats 4000000 in
theorem lx_wl (E : xa_EV) {L : List Nat} {nh ns : Nat} (t : Int32) {S : xa_AH} : ∀ x, x ≤ nh → ∀ pw T R U, RX nh ns x pw L T R U → U 130 47 = nI (pw x) → U = xa_lp (xm_wa1 ns t) x S → U 130 36 = t → xa_W E mX7_writeLetters (xa_Z E mX7_writeLetters L (PWL nh ns t L (xa_lp (xm_wa1 ns t) nh S))) 0 0 7 [some (.ref (ci 0 129)), some (.int (nI x)), none] [] L T R := by
  refine xa_dn (fun x hx ih => ?_)
  intro pw T R U hX h47 eU hnow
  have n12 := hX.n12
  have n32 := hX.n32
  refine xa_iload_n (pc := 7) dX7_writeLetters_7 rfl ?_
  refine xa_aload_n (pc := 8) dX7_writeLetters_8 rfl ?_
  refine xa_getIv (pc := 9) 7 2 _ lfX7_25 dX7_writeLetters_9 hX.c_m129 (kd_129 _) rfl hX.g_nh ?_
  refine xa_icmpN_ge (pc := 12) 133 x nh dX7_writeLetters_12 (by decide) rfl rfl (by omega) (by omega) (fun h12 => ?_) (fun h12 => ?_)
  · have g12 : ¬ (x < nh) := by omega
    have ex : x = nh := by omega
    subst ex
    exact xa_vret dX7_writeLetters_133 rfl ⟨rfl, pw, by rw [← eU]; exact hX, by rw [← eU]; exact h47, by rw [← eU]; exact hnow⟩
  · refine xa_aload_n (pc := 15) dX7_writeLetters_15 rfl ?_
    refine xa_getA (pc := 16) 7 0 (ci 0 126) lfX7_11 dX7_writeLetters_16 hX.c_m129 (kd_129 _) rfl hX.c_r0 ?_
    refine xa_iload_n (pc := 19) dX7_writeLetters_19 rfl ?_
    refine xa_aaldH (pc := 20) x (ci x 0) dX7_writeLetters_20 hX.c_m126 rfl (by omega) (hX.hA (by omega)) ?_
    refine xa_astore_n (pc := 21) dX7_writeLetters_21 (by decide) ?_
    refine xa_aload_n (pc := 22) dX7_writeLetters_22 rfl ?_
    refine xa_callV (pc := 23) ((hX.hS (by omega)).1 0 (by decide)) (kd_0 _) rfl lcX7_274 dX7_writeLetters_23 (cx_clearLetters E hX (h := x) (by omega)) rfl rfl (by decide) (Nat.le_of_ble_eq_true rfl) (by decide) ?_
    rintro _ _ _ ⟨rfl, rfl, rfl⟩
    have hX0 := hX
    have hX := RX_cls hX0 (show x < nh by omega) (Or.inl rfl)
    refine xa_aload_n (pc := 26) dX7_writeLetters_26 rfl ?_
    refine xa_getIv (pc := 27) 3 8 _ lfX7_95 dX7_writeLetters_27 ((hX.hS (by omega)).1 0 (by decide)) (kd_0 _) rfl (hX.h_state (by omega)) ?_
    refine xa_iconst (pc := 30) (v := 3) dX7_writeLetters_30 (by decide) ?_
    refine xa_icmp_ne (pc := 31) 59 dX7_writeLetters_31 (by decide) (fun h31 => ?_) (fun h31 => ?_)
    · refine xa_aload_n (pc := 59) dX7_writeLetters_59 rfl ?_
      refine xa_getIv (pc := 60) 3 8 _ lfX7_95 dX7_writeLetters_60 ((hX.hS (by omega)).1 0 (by decide)) (kd_0 _) rfl (hX.h_state (by omega)) ?_
      refine xa_iconst (pc := 63) (v := 2) dX7_writeLetters_63 (by decide) ?_
      refine xa_icmp_ne (pc := 64) 86 dX7_writeLetters_64 (by decide) (fun h64 => ?_) (fun h64 => ?_)
      · refine xa_aload_n (pc := 86) dX7_writeLetters_86 rfl ?_
        refine xa_getIv (pc := 87) 3 8 _ lfX7_95 dX7_writeLetters_87 ((hX.hS (by omega)).1 0 (by decide)) (kd_0 _) rfl (hX.h_state (by omega)) ?_
        refine xa_iconst (pc := 90) (v := 2) dX7_writeLetters_90 (by decide) ?_
        refine xa_icmp_ne (pc := 91) 127 dX7_writeLetters_91 (by decide) (fun h91 => ?_) (fun h91 => ?_)
        · refine xa_iinc (pc := 127) (v := nI (x + 1)) dX7_writeLetters_127 rfl (by decide) (nI_1 _) ?_
          refine xa_goto (pc := 130) (tgt := 7) dX7_writeLetters_130 (by decide) ?_
          obtain ⟨pw2, q1, q2, q3⟩ := st_silent hX0 (by omega) h47 hnow (xs_n h31 h64)
          exact xa_fgk (ih (by omega) pw2 _ _ _ q1 q2 (by rw [xa_lp, ← eU]) q3) (And.intro rfl (And.intro rfl trivial))
        · refine xa_aload_n (pc := 94) dX7_writeLetters_94 rfl ?_
          refine xa_aload_n (pc := 95) dX7_writeLetters_95 rfl ?_
          refine xa_callV (pc := 96) hX.c_m129 (kd_129 _) rfl lcX7_292 dX7_writeLetters_96 (cx_writeAsks E (WX_cls hX0 (by omega) (1 <<< (U 131 x &&& 31))) (by omega) (by rw [clr_a (by decide)])) rfl rfl (by decide) (Nat.le_of_ble_eq_true rfl) (by decide) ?_
          rintro _ _ _ ⟨rfl, rfl, hW⟩
          rw [show xm_clr (pw x) U 130 36 = t by rw [clr_a (by decide)]; exact hnow] at hW
          have hX := hW.1
          refine xa_aload_n (pc := 99) dX7_writeLetters_99 rfl ?_
          refine xa_aload_n (pc := 100) dX7_writeLetters_100 rfl ?_
          refine xa_callV (pc := 101) hX.c_m129 (kd_129 _) rfl lcX7_295 dX7_writeLetters_101 (cx_writeClaims E hW (by omega) (by rw [as_a (by decide), clr_a (by decide)])) rfl rfl (by decide) (Nat.le_of_ble_eq_true rfl) (by decide) ?_
          rintro _ _ _ ⟨rfl, rfl, hW⟩
          have hX := hW.1
          refine xa_aload_n (pc := 104) dX7_writeLetters_104 rfl ?_
          refine xa_aload_n (pc := 105) dX7_writeLetters_105 rfl ?_
          refine xa_callV (pc := 106) hX.c_m129 (kd_129 _) rfl lcX7_277 dX7_writeLetters_106 (cx_writeByes E hW (by omega) (by rw [cl_a (by decide), as_a (by decide), clr_a (by decide)])) rfl rfl (by decide) (Nat.le_of_ble_eq_true rfl) (by decide) ?_
          rintro _ _ _ ⟨rfl, rfl, hW⟩
          have hX := hW.1
          refine xa_aload_n (pc := 109) dX7_writeLetters_109 rfl ?_
          refine xa_aload_n (pc := 110) dX7_writeLetters_110 rfl ?_
          refine xa_callV (pc := 111) hX.c_m129 (kd_129 _) rfl lcX7_298 dX7_writeLetters_111 (cx_writeTellings E hW (by omega) (by rw [by_a (by decide), cl_a (by decide), as_a (by decide), clr_a (by decide)]) (by rw [by_a (by decide), cl_a (by decide), as_a (by decide), clr_a (by decide)]; exact (xs_2 h91).2)) rfl rfl (by decide) (Nat.le_of_ble_eq_true rfl) (by decide) ?_
          rintro _ _ _ ⟨rfl, rfl, hW⟩
          rw [show (xm_by ns x (pw x) (xa_lp (xm_cl1 x (pw x)) ns (xm_as ns x (pw x) t (xm_clr (pw x) U)))) 130 36 = t by rw [by_a (by decide), cl_a (by decide), as_a (by decide), clr_a (by decide)]; exact hnow] at hW
          change WX nh ns x pw L _ R (xm_pl ns x (pw x) t U) _ at hW
          have hX := hW.1
          refine xa_aload_n (pc := 114) dX7_writeLetters_114 rfl ?_
          refine xa_aload_n (pc := 115) dX7_writeLetters_115 rfl ?_
          refine xa_aload_n (pc := 116) dX7_writeLetters_116 rfl ?_
          refine xa_getA (pc := 117) 3 15 (lt R x) lfX7_280 dX7_writeLetters_117 ((hX.hS (by omega)).1 0 (by decide)) (kd_0 _) rfl (hX.l_rl (by omega)) ?_
          refine xa_aload_n (pc := 120) dX7_writeLetters_120 rfl ?_
          refine xa_getIv (pc := 121) 3 7 _ lfX7_88 dX7_writeLetters_121 ((hX.hS (by omega)).1 0 (by decide)) (kd_0 _) rfl (hX.h_net (by omega)) ?_
          refine xa_callV (pc := 124) hX.c_m129 (kd_129 _) rfl lcX7_284 dX7_writeLetters_124 (cx_post E (h := x) hX.c_m129 (hX.hS (by omega)) (hX.l_cl (h := x) (by omega)) (lat_lc (lat_lt hX (by omega))).1 _) rfl rfl (by decide) (Nat.le_of_ble_eq_true rfl) (by decide) ?_
          rintro _ _ _ ⟨rfl, rfl, rfl⟩
          refine xa_iinc (pc := 127) (v := nI (x + 1)) dX7_writeLetters_127 rfl (by decide) (nI_1 _) ?_
          refine xa_goto (pc := 130) (tgt := 7) dX7_writeLetters_130 (by decide) ?_
          exact absurd h91 h64
      · refine xa_aload_n (pc := 67) dX7_writeLetters_67 rfl ?_
        by_cases hb68 : U 139 x = 0
        · refine xa_getR (pc := 68) 3 11 none lfX7_155 dX7_writeLetters_68 ((hX.hS (by omega)).1 0 (by decide)) (kd_0 _) rfl (hX.h_br0 (by omega) hb68) ?_
          refine xa_ifnull_null (pc := 71) 86 dX7_writeLetters_71 (by decide) ?_
          refine xa_aload_n (pc := 86) dX7_writeLetters_86 rfl ?_
          refine xa_getIv (pc := 87) 3 8 _ lfX7_95 dX7_writeLetters_87 ((hX.hS (by omega)).1 0 (by decide)) (kd_0 _) rfl (hX.h_state (by omega)) ?_
          refine xa_iconst (pc := 90) (v := 2) dX7_writeLetters_90 (by decide) ?_
          refine xa_icmp_ne (pc := 91) 127 dX7_writeLetters_91 (by decide) (fun h91 => ?_) (fun h91 => ?_)
          · refine xa_iinc (pc := 127) (v := nI (x + 1)) dX7_writeLetters_127 rfl (by decide) (nI_1 _) ?_
            refine xa_goto (pc := 130) (tgt := 7) dX7_writeLetters_130 (by decide) ?_
            exact absurd h64 h91
          · refine xa_aload_n (pc := 94) dX7_writeLetters_94 rfl ?_
            refine xa_aload_n (pc := 95) dX7_writeLetters_95 rfl ?_
            refine xa_callV (pc := 96) hX.c_m129 (kd_129 _) rfl lcX7_292 dX7_writeLetters_96 (cx_writeAsks E (WX_cls hX0 (by omega) (1 <<< (U 131 x &&& 31))) (by omega) (by rw [clr_a (by decide)])) rfl rfl (by decide) (Nat.le_of_ble_eq_true rfl) (by decide) ?_
            rintro _ _ _ ⟨rfl, rfl, hW⟩
            rw [show xm_clr (pw x) U 130 36 = t by rw [clr_a (by decide)]; exact hnow] at hW
            have hX := hW.1
            refine xa_aload_n (pc := 99) dX7_writeLetters_99 rfl ?_
            refine xa_aload_n (pc := 100) dX7_writeLetters_100 rfl ?_
            refine xa_callV (pc := 101) hX.c_m129 (kd_129 _) rfl lcX7_295 dX7_writeLetters_101 (cx_writeClaims E hW (by omega) (by rw [as_a (by decide), clr_a (by decide)])) rfl rfl (by decide) (Nat.le_of_ble_eq_true rfl) (by decide) ?_
            rintro _ _ _ ⟨rfl, rfl, hW⟩
            have hX := hW.1
            refine xa_aload_n (pc := 104) dX7_writeLetters_104 rfl ?_
            refine xa_aload_n (pc := 105) dX7_writeLetters_105 rfl ?_
            refine xa_callV (pc := 106) hX.c_m129 (kd_129 _) rfl lcX7_277 dX7_writeLetters_106 (cx_writeByes E hW (by omega) (by rw [cl_a (by decide), as_a (by decide), clr_a (by decide)])) rfl rfl (by decide) (Nat.le_of_ble_eq_true rfl) (by decide) ?_
            rintro _ _ _ ⟨rfl, rfl, hW⟩
            have hX := hW.1
            refine xa_aload_n (pc := 109) dX7_writeLetters_109 rfl ?_
            refine xa_aload_n (pc := 110) dX7_writeLetters_110 rfl ?_
            refine xa_callV (pc := 111) hX.c_m129 (kd_129 _) rfl lcX7_298 dX7_writeLetters_111 (cx_writeTellings E hW (by omega) (by rw [by_a (by decide), cl_a (by decide), as_a (by decide), clr_a (by decide)]) (by rw [by_a (by decide), cl_a (by decide), as_a (by decide), clr_a (by decide)]; exact (xs_2 h91).2)) rfl rfl (by decide) (Nat.le_of_ble_eq_true rfl) (by decide) ?_
            rintro _ _ _ ⟨rfl, rfl, hW⟩
            rw [show (xm_by ns x (pw x) (xa_lp (xm_cl1 x (pw x)) ns (xm_as ns x (pw x) t (xm_clr (pw x) U)))) 130 36 = t by rw [by_a (by decide), cl_a (by decide), as_a (by decide), clr_a (by decide)]; exact hnow] at hW
            change WX nh ns x pw L _ R (xm_pl ns x (pw x) t U) _ at hW
            have hX := hW.1
            refine xa_aload_n (pc := 114) dX7_writeLetters_114 rfl ?_
            refine xa_aload_n (pc := 115) dX7_writeLetters_115 rfl ?_
            refine xa_aload_n (pc := 116) dX7_writeLetters_116 rfl ?_
            refine xa_getA (pc := 117) 3 15 (lt R x) lfX7_280 dX7_writeLetters_117 ((hX.hS (by omega)).1 0 (by decide)) (kd_0 _) rfl (hX.l_rl (by omega)) ?_
            refine xa_aload_n (pc := 120) dX7_writeLetters_120 rfl ?_
            refine xa_getIv (pc := 121) 3 7 _ lfX7_88 dX7_writeLetters_121 ((hX.hS (by omega)).1 0 (by decide)) (kd_0 _) rfl (hX.h_net (by omega)) ?_
            refine xa_callV (pc := 124) hX.c_m129 (kd_129 _) rfl lcX7_284 dX7_writeLetters_124 (cx_post E (h := x) hX.c_m129 (hX.hS (by omega)) (hX.l_cl (h := x) (by omega)) (lat_lc (lat_lt hX (by omega))).1 _) rfl rfl (by decide) (Nat.le_of_ble_eq_true rfl) (by decide) ?_
            rintro _ _ _ ⟨rfl, rfl, rfl⟩
            refine xa_iinc (pc := 127) (v := nI (x + 1)) dX7_writeLetters_127 rfl (by decide) (nI_1 _) ?_
            refine xa_goto (pc := 130) (tgt := 7) dX7_writeLetters_130 (by decide) ?_
            obtain ⟨pw2, q1, q2, q3⟩ := st_plain hX0 (by omega) h47 hnow (xs_2 h64) hb68 hW
            exact xa_fgk (ih (by omega) pw2 _ _ _ q1 q2 (by rw [xa_lp, ← eU]) q3) (And.intro rfl (And.intro rfl trivial))
        · refine xa_getA (pc := 68) 3 11 (ci x 80) lfX7_155 dX7_writeLetters_68 ((hX.hS (by omega)).1 0 (by decide)) (kd_0 _) rfl (hX.h_br1 (by omega) hb68) ?_
          refine xa_ifnull_ref (pc := 71) dX7_writeLetters_71 ?_
          refine xa_aload_n (pc := 74) dX7_writeLetters_74 rfl ?_
          refine xa_aload_n (pc := 75) dX7_writeLetters_75 rfl ?_
          refine xa_aload_n (pc := 76) dX7_writeLetters_76 rfl ?_
          refine xa_getA (pc := 77) 3 11 (ci x 80) lfX7_155 dX7_writeLetters_77 ((hX.hS (by omega)).1 0 (by decide)) (kd_0 _) rfl (hX.h_br1 (by omega) hb68) ?_
          refine xa_callV (pc := 80) hX.c_m129 (kd_129 _) rfl lcX7_288 dX7_writeLetters_80 (cx_writeCarried E hX (h := x) (by omega) hb68) rfl rfl (by decide) (Nat.le_of_ble_eq_true rfl) (by decide) ?_
          rintro _ _ _ ⟨rfl, hpc⟩
          refine xa_goto (pc := 83) (tgt := 127) dX7_writeLetters_83 (by decide) ?_
          refine xa_iinc (pc := 127) (v := nI (x + 1)) dX7_writeLetters_127 rfl (by decide) (nI_1 _) ?_
          refine xa_goto (pc := 130) (tgt := 7) dX7_writeLetters_130 (by decide) ?_
          obtain ⟨pw2, q1, q2, q3⟩ := st_bridge hX0 (by omega) h47 hnow (xs_2 h64) hb68 hpc
          exact xa_fgk (ih (by omega) pw2 _ _ _ q1 q2 (by rw [xa_lp, ← eU]) q3) (And.intro rfl (And.intro rfl trivial))
    · refine xa_aload_n (pc := 34) dX7_writeLetters_34 rfl ?_
      refine xa_aload_n (pc := 35) dX7_writeLetters_35 rfl ?_
      refine xa_callV (pc := 36) hX.c_m129 (kd_129 _) rfl lcX7_277 dX7_writeLetters_36 (cx_writeByesF E (WX_cls hX0 (by omega) (1 <<< (U 131 x &&& 31))) (by omega) (by rw [clr_a (by decide)])) rfl rfl (by decide) (Nat.le_of_ble_eq_true rfl) (by decide) ?_
      rintro _ _ _ ⟨rfl, rfl, hW, hf⟩
      have hX := hW.1
      refine xa_aload_n (pc := 39) dX7_writeLetters_39 rfl ?_
      refine xa_callV (pc := 40) ((hX.hS (by omega)).1 0 (by decide)) (kd_0 _) rfl lcX7_112 dX7_writeLetters_40 (cx_goAway E (hX.hS (h := x) (by omega))) rfl rfl (by decide) (Nat.le_of_ble_eq_true rfl) (by decide) ?_
      rintro _ _ _ ⟨rfl, rfl, rfl⟩
      have hX := rx_goAway hW.1 (h := x) (by omega)
      refine xa_aload_n (pc := 43) dX7_writeLetters_43 rfl ?_
      refine xa_aload_n (pc := 44) dX7_writeLetters_44 rfl ?_
      refine xa_aload_n (pc := 45) dX7_writeLetters_45 rfl ?_
      refine xa_getA (pc := 46) 3 15 (lt R x) lfX7_280 dX7_writeLetters_46 ((hX.hS (by omega)).1 0 (by decide)) (kd_0 _) rfl (hX.l_rl (by omega)) ?_
      refine xa_aload_n (pc := 49) dX7_writeLetters_49 rfl ?_
      refine xa_getIv (pc := 50) 3 7 _ lfX7_88 dX7_writeLetters_50 ((hX.hS (by omega)).1 0 (by decide)) (kd_0 _) rfl (hX.h_net (by omega)) ?_
      refine xa_callV (pc := 53) hX.c_m129 (kd_129 _) rfl lcX7_284 dX7_writeLetters_53 (cx_post E (h := x) hX.c_m129 (hX.hS (by omega)) (hX.l_cl (h := x) (by omega)) (lat_lc (lat_lt hX (by omega))).1 _) rfl rfl (by decide) (Nat.le_of_ble_eq_true rfl) (by decide) ?_
      rintro _ _ _ ⟨rfl, rfl, rfl⟩
      refine xa_goto (pc := 56) (tgt := 127) dX7_writeLetters_56 (by decide) ?_
      refine xa_iinc (pc := 127) (v := nI (x + 1)) dX7_writeLetters_127 rfl (by decide) (nI_1 _) ?_
      refine xa_goto (pc := 130) (tgt := 7) dX7_writeLetters_130 (by decide) ?_
      obtain ⟨pw2, q1, q2, q3⟩ := st_leave hX0 (by omega) h47 hnow (xs_3 hX0 (by omega) h31) hW hf
      exact xa_fgk (ih (by omega) pw2 _ _ _ q1 q2 (by rw [xa_lp, ← eU]) q3) (And.intro rfl (And.intro rfl trivial))
set_option maxHeartbeats 4000000 in
theorem cx_writeLetters (E : xa_EV) {L : List Nat} {T : xa_AH} {R : xa_AR} {nh ns : Nat} {pw : Nat → Nat} {S : xa_AH} (hX : RX nh ns 0 pw L T R S) (h0 : S 130 47 = 0)  : xa_Ct E mX7_writeLetters [.ref (ci 0 129)] L T R (PWL nh ns (S 130 36) L (xa_lp (xm_wa1 ns (S 130 36)) nh (xa_up S 130 43 0))) := by
  refine xa_Ct.of [some (.ref (ci 0 129)), none, none] rfl (Nat.le_of_ble_eq_true rfl) (by simp [Value.category]) rfl ?_
  have n12 := hX.n12
  have n32 := hX.n32
  refine xa_aload_n (pc := 0) dX7_writeLetters_0 rfl ?_
  refine xa_iconst (pc := 1) (v := 0) dX7_writeLetters_1 (by decide) ?_
  refine xa_putI (pc := 2) 7 6 lpX7_244 dX7_writeLetters_2 hX.c_m129 (kd_129 _) rfl rfl rfl ?_
  refine xa_iconst (pc := 5) (v := 0) dX7_writeLetters_5 (by decide) ?_
  refine xa_istore_n (pc := 6) dX7_writeLetters_6 (by decide) ?_
  exact xa_fgk (lx_wl E (S 130 36) 0 (Nat.zero_le _) pw _ _ _ (rx_clately hX (v := 0)) (by rw [hX.rx_k.2, show nI 0 = 0 from rfl]; simpa [xa_up] using h0) rfl (by simp [xa_up])) (And.intro rfl (And.intro rfl trivial))
