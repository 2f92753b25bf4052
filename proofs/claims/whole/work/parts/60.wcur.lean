/-! ===== the letter that is being written ===== -/
theorem pw_le {nh ns k : Nat} {pw : Nat → Nat} {L : List Nat} {T : xa_AH} {R : xa_AR} {S : xa_AH} (hX : RX nh ns k pw L T R S) : ∀ j, j ≤ k → ∀ i, i ≤ j → pw i ≤ pw j
  | 0, _, i, hi => by have : i = 0 := by omega
                      rw [this]; exact Nat.le_refl _
  | j + 1, hj, i, hi => by
    by_cases e : i = j + 1
    · rw [e]; exact Nat.le_refl _
    · have h1 := pw_le hX j (by omega) i (by omega)
      have h2 := hX.p_s (i := j) (by omega)
      omega
theorem RX_cur {nh ns h : Nat} {pw : Nat → Nat} {L : List Nat} {T : xa_AH} {R : xa_AR} {S : xa_AH} (hX : RX nh ns h pw L T R S) {T2 S2 : xa_AH} (hh : h < nh) (hT : ∀ a, (a < lt R h ∨ lt R h + 15 < a) → T2 a = T a) (hS : ∀ a, a < 179 → S2 a = S a) (hR : ∀ r, r < 48 → r ≠ pw h → rowsame S S2 r) : RX nh ns h pw L T2 R S2 := by
  have n12 := hX.n12
  have b := hX.pwb h (Nat.le_refl _)
  have lh := lat_lt hX hh
  refine RX_one hX hh lh hT hS hR ?_ ?_ ?_
  · intro x hx g1 g2
    have lx := lat_b hX hx g1
    refine ⟨fun c => ?_, fun c => ?_⟩
    · exfalso; rcases c with c | c
      · by_cases e : x = h
        · subst e; exact (four hX hx g1).2.1 c.symm
        · exact lat_host lx.2.1 lh e c
      · omega
    · exfalso; rcases c with c | c
      · by_cases e : x = h
        · subst e; exact (four hX hx g1).2.2.1 c.symm
        · exact lat_host lx.2.2 lh e c
      · omega
  · intro x hx _; omega
  · intro i hi
    have m := pw_le hX h (Nat.le_refl _) (i + 1) (by omega)
    have s := hX.p_s hi
    refine ⟨lat_host (lat_lt hX (by omega)) lh (by omega), fun g => lat_host (lat_b hX (by omega) g).1 lh (by omega), fun g => ?_, fun g1 g2 => ?_⟩
    · rw [if_pos g] at s; omega
    · rw [if_pos (show ¬ S 139 i = 0 ∧ lne T (l2 R i) = true from ⟨g1, g2⟩)] at s; omega
/-- what is written so far: the letter of host h and its row -/
def WX (nh ns h : Nat) (pw : Nat → Nat) (L : List Nat) (T : xa_AH) (R : xa_AR) (S : xa_AH) (nb : Int32) : Prop := RX nh ns h pw L T R S ∧ lr T (lt R h) S (pw h) nb
theorem addAsk_cur {nh ns h x : Nat} {pw : Nat → Nat} {L : List Nat} {T : xa_AH} {R : xa_AR} {S : xa_AH} {nb m kn b : Int32} (hX : WX nh ns h pw L T R S nb) (hh : h < nh) (hx : x < 16) : WX nh ns h pw L (lx_addAsk T (lt R h) x m kn b) R (xa_up (xa_up (xa_up (xa_up S 179 (16 * pw h + x) 1) 180 (16 * pw h + x) m) 181 (16 * pw h + x) kn) 182 (16 * pw h + x) (b ||| nb)) nb := by
  have b0 := hX.1.pwb h (Nat.le_refl _)
  have n12 := hX.1.n12
  exact ⟨RX_cur hX.1 hh (fun a g => lx_addAsk_o g) (fun a g => by rw [up_o (by omega), up_o (by omega), up_o (by omega), up_o (by omega)]) (fun r hr n => rowsame_up (rowsame_up (rowsame_up (rowsame_up (rowsame_rf) (by omega)) (by omega)) (by omega)) (by omega)), lr_addAsk hx hX.2⟩
theorem addClaim_cur {nh ns h x : Nat} {pw : Nat → Nat} {L : List Nat} {T : xa_AH} {R : xa_AR} {S : xa_AH} {nb n b : Int32} (hX : WX nh ns h pw L T R S nb) (hh : h < nh) (hx : x < 32) (hn : 0 < n) : WX nh ns h pw L (lx_addClaim T (lt R h) x n b) R (xa_up (xa_up S 183 (32 * pw h + x) n) 184 (32 * pw h + x) (b ||| nb)) nb := by
  have b0 := hX.1.pwb h (Nat.le_refl _)
  have n12 := hX.1.n12
  exact ⟨RX_cur hX.1 hh (fun a g => lx_addClaim_o g) (fun a g => by rw [up_o (by omega), up_o (by omega)]) (fun r hr n => rowsame_up (rowsame_up (rowsame_rf) (by omega)) (by omega)), lr_addClaim hx hn hX.2⟩
theorem addBye_cur {nh ns h x : Nat} {pw : Nat → Nat} {L : List Nat} {T : xa_AH} {R : xa_AR} {S : xa_AH} {nb b : Int32} (hX : WX nh ns h pw L T R S nb) (hh : h < nh) (hx : x < 32) : WX nh ns h pw L (lx_addBye T (lt R h) x b) R (xa_up (xa_up S 185 (32 * pw h + x) 1) 186 (32 * pw h + x) (b ||| nb)) nb := by
  have b0 := hX.1.pwb h (Nat.le_refl _)
  have n12 := hX.1.n12
  exact ⟨RX_cur hX.1 hh (fun a g => lx_addBye_o g) (fun a g => by rw [up_o (by omega), up_o (by omega)]) (fun r hr n => rowsame_up (rowsame_up (rowsame_rf) (by omega)) (by omega)), lr_addBye hx hX.2⟩
theorem addTelling_cur {nh ns h x : Nat} {pw : Nat → Nat} {L : List Nat} {T : xa_AH} {R : xa_AR} {S : xa_AH} {nb n m l b : Int32} (hX : WX nh ns h pw L T R S nb) (hh : h < nh) (hx : x < 32) (hn : 0 < n) (hl : vp_in l 201) : WX nh ns h pw L (lx_addTelling T (lt R h) x n m l b) R (xa_up (xa_up (xa_up (xa_up S 187 (32 * pw h + x) n) 188 (32 * pw h + x) m) 189 (32 * pw h + x) l) 190 (32 * pw h + x) (b ||| nb)) nb := by
  have b0 := hX.1.pwb h (Nat.le_refl _)
  have n12 := hX.1.n12
  exact ⟨RX_cur hX.1 hh (fun a g => lx_addTelling_o g) (fun a g => by rw [up_o (by omega), up_o (by omega), up_o (by omega), up_o (by omega)]) (fun r hr n => rowsame_up (rowsame_up (rowsame_up (rowsame_up (rowsame_rf) (by omega)) (by omega)) (by omega)) (by omega)), lr_addTelling hx hn hl hX.2⟩
/-- base steps leave the letter as it is -/
theorem WX.base {nh ns h : Nat} {pw : Nat → Nat} {L : List Nat} {T T2 : xa_AH} {R : xa_AR} {S S2 : xa_AH} {nb : Int32} (hX : WX nh ns h pw L T R S nb) (hh : h < nh) (h2 : RX nh ns h pw L T2 R S2) (hf : fl T T2) (hS : ∀ a, 179 ≤ a → S2 a = S a) : WX nh ns h pw L T2 R S2 nb :=
  ⟨h2, lr_cell (fun d hd => hf _ (lc_q (lat_lc (lat_lt hX.1 hh)) hd)) (lr_row ⟨fun a g1 _ k _ => by rw [hS a g1], fun a g1 s _ => by rw [hS a (by omega)]⟩ hX.2)⟩
def PWX (nh ns h : Nat) (pw : Nat → Nat) (L : List Nat) (R : xa_AR) (S : xa_AH) (nb : Int32) : Option Value → xa_AH → xa_AR → Prop := fun r T2 R2 => none = r ∧ R = R2 ∧ WX nh ns h pw L T2 R S nb
set_option maxHeartbeats 4000000 in
theorem lx_wby (E : xa_EV) {L : List Nat} {R : xa_AR} {nh ns h : Nat} {pw : Nat → Nat} {nb : Int32} (hh : h < nh) {S : xa_AH} : ∀ x, x ≤ ns → ∀ T U, WX nh ns h pw L T R U nb → U = xa_lp (xm_by1 h (pw h)) x S → nb = 1 <<< (U 131 h &&& 31) → xa_W E mX7_writeByes (xa_Z E mX7_writeByes L (PWX nh ns h pw L R (xa_lp (xm_by1 h (pw h)) ns S) nb)) 0 0 2 [some (.ref (ci 0 129)), some (.ref (ci h 0)), some (.int (nI x)), none] [] L T R := by
  refine xa_dn (fun x hx ih => ?_)
  intro T U hW eU hnb
  have hX := hW.1
  have n12 := hX.n12
  have n32 := hX.n32
  refine xa_iload_n (pc := 2) dX7_writeByes_2 rfl ?_
  refine xa_aload_n (pc := 3) dX7_writeByes_3 rfl ?_
  refine xa_getIv (pc := 4) 7 3 _ lfX7_103 dX7_writeByes_4 hX.c_m129 (kd_129 _) rfl hX.g_ns ?_
  refine xa_icmpN_ge (pc := 7) 52 x ns dX7_writeByes_7 (by decide) rfl rfl (by omega) (by omega) (fun h7 => ?_) (fun h7 => ?_)
  · have g7 : ¬ (x < ns) := by omega
    have ex : x = ns := by omega
    subst ex
    exact xa_vret dX7_writeByes_52 rfl ⟨rfl, rfl, by rw [← eU]; exact hW⟩
  · refine xa_aload_n (pc := 10) dX7_writeByes_10 rfl ?_
    refine xa_getA (pc := 11) 7 1 (ci 0 127) lfX7_17 dX7_writeByes_11 hX.c_m129 (kd_129 _) rfl hX.c_r1 ?_
    refine xa_iload_n (pc := 14) dX7_writeByes_14 rfl ?_
    refine xa_aaldS (pc := 15) x (ci x 128) dX7_writeByes_15 hX.c_m127 rfl (by omega) (hX.sA (by omega)) ?_
    refine xa_astore_n (pc := 16) dX7_writeByes_16 (by decide) ?_
    refine xa_aload_n (pc := 17) dX7_writeByes_17 rfl ?_
    refine xa_getA (pc := 18) 5 1 (ci (xc (U 146 x)) 0) lfX7_106 dX7_writeByes_18 (hX.sM (by omega)) (kd_128 _) rfl (hX.s_host (by omega)) ?_
    refine xa_aload_n (pc := 21) dX7_writeByes_21 rfl ?_
    refine xa_acmpC_ne (pc := 22) 46 (x := (ci (xc (U 146 x)) 0)) (y := (ci h 0)) dX7_writeByes_22 (by decide) ((hX.hS (hX.hO (by omega))).1 0 (by decide)) ((hX.hS hh).1 0 (by decide)) (fun h22 => ?_) (fun h22 => ?_)
    · have h22 : ¬ ((xc (U 146 x)) = h) := fun q => h22 (ci_i.mpr q)
      refine xa_iinc (pc := 46) (v := nI (x + 1)) dX7_writeByes_46 rfl (by decide) (nI_1 _) ?_
      refine xa_goto (pc := 49) (tgt := 2) dX7_writeByes_49 (by decide) ?_
      exact xa_fgk (ih (by omega) _ _ hW (by rw [xa_lp, ← eU, xm_by1, if_pos (Or.inl (fun g => h22 ((hX.own (by omega) (by omega)).mp g)))]) hnb) (And.intro rfl (And.intro rfl (And.intro rfl trivial)))
    · have h22 := ci_i.mp h22
      refine xa_aload_n (pc := 25) dX7_writeByes_25 rfl ?_
      refine xa_getIv (pc := 26) 5 10 _ lfX7_109 dX7_writeByes_26 (hX.sM (by omega)) (kd_128 _) rfl (hX.s_hasBye (by omega)) ?_
      refine xa_if_eq (pc := 29) 46 dX7_writeByes_29 (by decide) (fun h29 => ?_) (fun h29 => ?_)
      · refine xa_iinc (pc := 46) (v := nI (x + 1)) dX7_writeByes_46 rfl (by decide) (nI_1 _) ?_
        refine xa_goto (pc := 49) (tgt := 2) dX7_writeByes_49 (by decide) ?_
        exact xa_fgk (ih (by omega) _ _ hW (by rw [xa_lp, ← eU, xm_by1, if_pos (Or.inr h29)]) hnb) (And.intro rfl (And.intro rfl (And.intro rfl trivial)))
      · refine xa_aload_n (pc := 32) dX7_writeByes_32 rfl ?_
        refine xa_getA (pc := 33) 3 15 (lt R h) lfX7_280 dX7_writeByes_33 ((hX.hS hh).1 0 (by decide)) (kd_0 _) rfl (hX.l_rl hh) ?_
        refine xa_iload_n (pc := 36) dX7_writeByes_36 rfl ?_
        refine xa_iconst (pc := 37) (v := 0) dX7_writeByes_37 (by decide) ?_
        refine xa_callV (pc := 38) ((hX.l_cl hh)).1 ((hX.l_cl hh)).2.1 rfl lcX7_322 dX7_writeByes_38 (cx_addBye E (hX.l_cl hh) (s := x) rfl (by omega) _) rfl rfl (by decide) (Nat.le_of_ble_eq_true rfl) (by decide) ?_
        rintro _ _ _ ⟨rfl, rfl, rfl⟩
        refine xa_aload_n (pc := 41) dX7_writeByes_41 rfl ?_
        refine xa_iconst (pc := 42) (v := 0) dX7_writeByes_42 (by decide) ?_
        refine xa_putI (pc := 43) 5 10 lpX7_109 dX7_writeByes_43 (hX.sM (by omega)) (kd_128 _) rfl rfl rfl ?_
        refine xa_iinc (pc := 46) (v := nI (x + 1)) dX7_writeByes_46 rfl (by decide) (nI_1 _) ?_
        refine xa_goto (pc := 49) (tgt := 2) dX7_writeByes_49 (by decide) ?_
        have w1 := addBye_cur hW hh (show x < 32 by omega) (b := 0)
        have r2 := rx_nobye w1.1 (s := x) (by omega)
        have w2 := w1.base hh r2 (fl_up fl_rf (by decide) (by decide)) (fun a ha => up_o (by omega))
        rw [zor] at w2
        exact xa_fgk (ih (by omega) _ _ w2 (by rw [xa_lp, ← eU, xm_by1, if_neg (fun g => g.elim (fun g => g ((hX.own (by omega) (by omega)).mpr h22)) (fun g => h29 g)), up_comm (a := 186) (b := 155) (by decide), up_comm (a := 185) (b := 155) (by decide), hnb]) hnb) (And.intro rfl (And.intro rfl (And.intro rfl trivial)))
set_option maxHeartbeats 4000000 in
theorem cx_writeByes (E : xa_EV) {L : List Nat} {T : xa_AH} {R : xa_AR} {nh ns h : Nat} {pw : Nat → Nat} {S : xa_AH} {nb : Int32} (hW : WX nh ns h pw L T R S nb) (hh : h < nh) (hnb : nb = 1 <<< (S 131 h &&& 31))  : xa_Ct E mX7_writeByes [.ref (ci 0 129), .ref (ci h 0)] L T R (PWX nh ns h pw L R (xm_by ns h (pw h) S) nb) := by
  refine xa_Ct.of [some (.ref (ci 0 129)), some (.ref (ci h 0)), none, none] rfl (Nat.le_of_ble_eq_true rfl) (by simp [Value.category]) rfl ?_
  have hX := hW.1
  have n12 := hX.n12
  have n32 := hX.n32
  refine xa_iconst (pc := 0) (v := 0) dX7_writeByes_0 (by decide) ?_
  refine xa_istore_n (pc := 1) dX7_writeByes_1 (by decide) ?_
  exact xa_fgk (lx_wby E hh 0 (Nat.zero_le _) _ _ hW rfl hnb) (And.intro rfl (And.intro rfl (And.intro rfl trivial)))
def xm_cl1 (h wr s : Nat) (S : xa_AH) : xa_AH := if ¬ S 146 s = nI h ∨ ¬ S 151 s = 1 ∨ S 152 s = 0 then S else (xa_up (xa_up (xa_up S 152 s (S 152 s - 1)) 183 (32 * wr + s) (S 148 s)) 184 (32 * wr + s) (1 <<< (S 131 h &&& 31)))
theorem cl_in {v : Int32} (h : vp_in v 4) (g : 0 < v) : vp_in (v - 1) 4 := by
  have e : v = nI (xc v) := xa_in_eq h
  have l : xc v < 4 := xa_in_lt h
  have e2 : v.toInt = (xc v : Int) := by conv => lhs; rw [e]
                                         exact nI_toInt (by omega)
  rw [fa_lt, e2] at g
  have z : (0 : Int32).toInt = 0 := rfl
  rw [z] at g
  rw [e]
  have e1 : (nI (xc v) - 1).toInt = (xc v : Int) - 1 := pk_sub_toInt (a := xc v) (b := 1) (by omega) (by omega)
  rw [vp_in_iff, e1]; omega
theorem cl_0 {v : Int32} (h : vp_in v 4) : (v = 0) = ¬ 0 < v := by
  have e : v = nI (xc v) := xa_in_eq h
  have l : xc v < 4 := xa_in_lt h
  rw [e]
  generalize xc v = n at l
  apply propext
  have z : (0 : Int32) = nI 0 := rfl
  rw [z, nI_eq (by omega) (by decide), nI_ltI (by decide) (by omega)]; omega
theorem lc_out2 {q h x : Nat} (g : lat h q) : ci x 128 < q ∨ q + 15 < ci x 128 := lc_out (h := h) g (nlc (by decide) (by decide))
set_option maxHeartbeats 4000000 in
theorem lx_wcl (E : xa_EV) {L : List Nat} {R : xa_AR} {nh ns h : Nat} {pw : Nat → Nat} {nb : Int32} (hh : h < nh) {S : xa_AH} : ∀ x, x ≤ ns → ∀ T U, WX nh ns h pw L T R U nb → U = xa_lp (xm_cl1 h (pw h)) x S → nb = 1 <<< (U 131 h &&& 31) → xa_W E mX7_writeClaims (xa_Z E mX7_writeClaims L (PWX nh ns h pw L R (xa_lp (xm_cl1 h (pw h)) ns S) nb)) 0 0 2 [some (.ref (ci 0 129)), some (.ref (ci h 0)), some (.int (nI x)), none] [] L T R := by
  refine xa_dn (fun x hx ih => ?_)
  intro T U hW eU hnb
  have hX := hW.1
  have n12 := hX.n12
  have n32 := hX.n32
  refine xa_iload_n (pc := 2) dX7_writeClaims_2 rfl ?_
  refine xa_aload_n (pc := 3) dX7_writeClaims_3 rfl ?_
  refine xa_getIv (pc := 4) 7 3 _ lfX7_103 dX7_writeClaims_4 hX.c_m129 (kd_129 _) rfl hX.g_ns ?_
  refine xa_icmpN_ge (pc := 7) 69 x ns dX7_writeClaims_7 (by decide) rfl rfl (by omega) (by omega) (fun h7 => ?_) (fun h7 => ?_)
  · have g7 : ¬ (x < ns) := by omega
    have ex : x = ns := by omega
    subst ex
    exact xa_vret dX7_writeClaims_69 rfl ⟨rfl, rfl, by rw [← eU]; exact hW⟩
  · refine xa_aload_n (pc := 10) dX7_writeClaims_10 rfl ?_
    refine xa_getA (pc := 11) 7 1 (ci 0 127) lfX7_17 dX7_writeClaims_11 hX.c_m129 (kd_129 _) rfl hX.c_r1 ?_
    refine xa_iload_n (pc := 14) dX7_writeClaims_14 rfl ?_
    refine xa_aaldS (pc := 15) x (ci x 128) dX7_writeClaims_15 hX.c_m127 rfl (by omega) (hX.sA (by omega)) ?_
    refine xa_astore_n (pc := 16) dX7_writeClaims_16 (by decide) ?_
    refine xa_aload_n (pc := 17) dX7_writeClaims_17 rfl ?_
    refine xa_getA (pc := 18) 5 1 (ci (xc (U 146 x)) 0) lfX7_106 dX7_writeClaims_18 (hX.sM (by omega)) (kd_128 _) rfl (hX.s_host (by omega)) ?_
    refine xa_aload_n (pc := 21) dX7_writeClaims_21 rfl ?_
    refine xa_acmpC_ne (pc := 22) 63 (x := (ci (xc (U 146 x)) 0)) (y := (ci h 0)) dX7_writeClaims_22 (by decide) ((hX.hS (hX.hO (by omega))).1 0 (by decide)) ((hX.hS hh).1 0 (by decide)) (fun h22 => ?_) (fun h22 => ?_)
    · have h22 : ¬ ((xc (U 146 x)) = h) := fun q => h22 (ci_i.mpr q)
      refine xa_iinc (pc := 63) (v := nI (x + 1)) dX7_writeClaims_63 rfl (by decide) (nI_1 _) ?_
      refine xa_goto (pc := 66) (tgt := 2) dX7_writeClaims_66 (by decide) ?_
      exact xa_fgk (ih (by omega) _ _ hW (by rw [xa_lp, ← eU, xm_cl1, if_pos (Or.inl (fun g => h22 ((hX.own (by omega) (by omega)).mp g)))]) hnb) (And.intro rfl (And.intro rfl (And.intro rfl trivial)))
    · have h22 := ci_i.mp h22
      refine xa_aload_n (pc := 25) dX7_writeClaims_25 rfl ?_
      refine xa_getIv (pc := 26) 5 7 _ lfX7_59 dX7_writeClaims_26 (hX.sM (by omega)) (kd_128 _) rfl (hX.s_state (by omega)) ?_
      refine xa_iconst (pc := 29) (v := 1) dX7_writeClaims_29 (by decide) ?_
      refine xa_icmp_ne (pc := 30) 63 dX7_writeClaims_30 (by decide) (fun h30 => ?_) (fun h30 => ?_)
      · refine xa_iinc (pc := 63) (v := nI (x + 1)) dX7_writeClaims_63 rfl (by decide) (nI_1 _) ?_
        refine xa_goto (pc := 66) (tgt := 2) dX7_writeClaims_66 (by decide) ?_
        exact xa_fgk (ih (by omega) _ _ hW (by rw [xa_lp, ← eU, xm_cl1, if_pos (Or.inr (Or.inl h30))]) hnb) (And.intro rfl (And.intro rfl (And.intro rfl trivial)))
      · refine xa_aload_n (pc := 33) dX7_writeClaims_33 rfl ?_
        refine xa_getIv (pc := 34) 5 8 _ lfX7_203 dX7_writeClaims_34 (hX.sM (by omega)) (kd_128 _) rfl (hX.s_claims (by omega) (by assumption)) ?_
        refine xa_if_le (pc := 37) 63 dX7_writeClaims_37 (by decide) (fun h37 => ?_) (fun h37 => ?_)
        · refine xa_iinc (pc := 63) (v := nI (x + 1)) dX7_writeClaims_63 rfl (by decide) (nI_1 _) ?_
          refine xa_goto (pc := 66) (tgt := 2) dX7_writeClaims_66 (by decide) ?_
          exact xa_fgk (ih (by omega) _ _ hW (by rw [xa_lp, ← eU, xm_cl1, if_pos (Or.inr (Or.inr (by rw [cl_0 (hX.is_cl (s := x) (by omega))]; exact Int32.not_lt.mpr h37)))]) hnb) (And.intro rfl (And.intro rfl (And.intro rfl trivial)))
        · refine xa_aload_n (pc := 40) dX7_writeClaims_40 rfl ?_
          refine xa_getA (pc := 41) 3 15 (lt R h) lfX7_280 dX7_writeClaims_41 ((hX.hS hh).1 0 (by decide)) (kd_0 _) rfl (hX.l_rl hh) ?_
          refine xa_iload_n (pc := 44) dX7_writeClaims_44 rfl ?_
          refine xa_aload_n (pc := 45) dX7_writeClaims_45 rfl ?_
          refine xa_getIv (pc := 46) 5 5 _ lfX7_201 dX7_writeClaims_46 (hX.sM (by omega)) (kd_128 _) rfl (hX.s_name (by omega)) ?_
          refine xa_iconst (pc := 49) (v := 0) dX7_writeClaims_49 (by decide) ?_
          refine xa_callV (pc := 50) ((hX.l_cl hh)).1 ((hX.l_cl hh)).2.1 rfl lcX7_319 dX7_writeClaims_50 (cx_addClaim E (hX.l_cl hh) (s := x) rfl (by omega) _ _) rfl rfl (by decide) (Nat.le_of_ble_eq_true rfl) (by decide) ?_
          rintro _ _ _ ⟨rfl, rfl, rfl⟩
          refine xa_aload_n (pc := 53) dX7_writeClaims_53 rfl ?_
          refine xa_dup (pc := 54) dX7_writeClaims_54 rfl ?_
          refine xa_getIv (pc := 55) 5 8 (U 152 x) lfX7_203 dX7_writeClaims_55 (hX.sM (by omega)) (kd_128 _) rfl (by rw [lx_addClaim_o (lc_out2 (lat_lt hX hh))]; exact hX.s_claims (by omega) h30) ?_
          refine xa_iconst (pc := 58) (v := 1) dX7_writeClaims_58 (by decide) ?_
          refine xa_isub (pc := 59) dX7_writeClaims_59 ?_
          refine xa_putI (pc := 60) 5 8 lpX7_203 dX7_writeClaims_60 (hX.sM (by omega)) (kd_128 _) rfl rfl rfl ?_
          refine xa_iinc (pc := 63) (v := nI (x + 1)) dX7_writeClaims_63 rfl (by decide) (nI_1 _) ?_
          refine xa_goto (pc := 66) (tgt := 2) dX7_writeClaims_66 (by decide) ?_
          have w1 := addClaim_cur hW hh (show x < 32 by omega) (b := 0) (n := U 148 x) (by have z := (hX.is_nm (s := x) (by omega)).1; rw [fa_le] at z; rw [fa_lt]; have z0 : (0 : Int32).toInt = 0 := rfl; have z1 : (1 : Int32).toInt = 1 := rfl; omega)
          have r2 := rx_claim w1.1 (s := x) (c := U 152 x - 1) (by omega) (cl_in (hX.is_cl (s := x) (by omega)) (Int32.not_le.mp h37))
          have w2 := w1.base hh r2 (fl_up fl_rf (by decide) (by decide)) (fun a ha => up_o (by omega))
          rw [zor] at w2
          exact xa_fgk (ih (by omega) _ _ w2 (by rw [xa_lp, ← eU, xm_cl1, if_neg (fun g => g.elim (fun g => g ((hX.own (by omega) (by omega)).mpr h22)) (fun g => g.elim (fun g => g h30) (fun g => by rw [cl_0 (hX.is_cl (s := x) (by omega))] at g; exact g (Int32.not_le.mp h37)))), up_comm (a := 184) (b := 152) (by decide), up_comm (a := 183) (b := 152) (by decide), hnb]) hnb) (And.intro rfl (And.intro rfl (And.intro rfl trivial)))
set_option maxHeartbeats 4000000 in
theorem cx_writeClaims (E : xa_EV) {L : List Nat} {T : xa_AH} {R : xa_AR} {nh ns h : Nat} {pw : Nat → Nat} {S : xa_AH} {nb : Int32} (hW : WX nh ns h pw L T R S nb) (hh : h < nh) (hnb : nb = 1 <<< (S 131 h &&& 31))  : xa_Ct E mX7_writeClaims [.ref (ci 0 129), .ref (ci h 0)] L T R (PWX nh ns h pw L R (xa_lp (xm_cl1 h (pw h)) ns S) nb) := by
  refine xa_Ct.of [some (.ref (ci 0 129)), some (.ref (ci h 0)), none, none] rfl (Nat.le_of_ble_eq_true rfl) (by simp [Value.category]) rfl ?_
  have hX := hW.1
  have n12 := hX.n12
  have n32 := hX.n32
  refine xa_iconst (pc := 0) (v := 0) dX7_writeClaims_0 (by decide) ?_
  refine xa_istore_n (pc := 1) dX7_writeClaims_1 (by decide) ?_
  exact xa_fgk (lx_wcl E hh 0 (Nat.zero_le _) _ _ hW rfl hnb) (And.intro rfl (And.intro rfl (And.intro rfl trivial)))
