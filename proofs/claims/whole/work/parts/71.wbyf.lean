def lfr (T T2 : xa_AH) (q : Nat) : Prop := ∀ z, lcell z → (z < q ∨ q + 15 < z) → T2 z = T z
def PWF (nh ns h : Nat) (pw : Nat → Nat) (L : List Nat) (T : xa_AH) (R : xa_AR) (S : xa_AH) (nb : Int32) : Option Value → xa_AH → xa_AR → Prop := fun r T2 R2 => none = r ∧ R = R2 ∧ WX nh ns h pw L T2 R S nb ∧ lfr T T2 (lt R h)
set_option maxHeartbeats 4000000 in
theorem lx_wbyF (E : xa_EV) {L : List Nat} {R : xa_AR} {nh ns h : Nat} {pw : Nat → Nat} {nb : Int32} (hh : h < nh) {S T0 : xa_AH} : ∀ x, x ≤ ns → ∀ T U, WX nh ns h pw L T R U nb → U = xa_lp (xm_by1 h (pw h)) x S → nb = 1 <<< (U 131 h &&& 31) → lfr T0 T (lt R h) → xa_W E mX7_writeByes (xa_Z E mX7_writeByes L (PWF nh ns h pw L T0 R (xa_lp (xm_by1 h (pw h)) ns S) nb)) 0 0 2 [some (.ref (ci 0 129)), some (.ref (ci h 0)), some (.int (nI x)), none] [] L T R := by
  refine xa_dn (fun x hx ih => ?_)
  intro T U hW eU hnb hf
  have hX := hW.1
  have n12 := hX.n12
  have n32 := hX.n32
  refine xa_iload_n (pc := 2) dX7_writeByes_2 rfl ?_
  refine xa_aload_n (pc := 3) dX7_writeByes_3 rfl ?_
  refine xa_getIv (pc := 4) 7 3 _ lfX7_103 dX7_writeByes_4 hX.c_m129 (kd_129 _) rfl hX.g_ns ?_
  refine xa_icmpN_ge (pc := 7) 52 x ns dX7_writeByes_7 (by decide) rfl rfl (by omega) (by omega) (fun h7 => ?_) (fun h7 => ?_)
  · have g7 : ¬ (x < ns) := by omega
    have ex : x = ns := by omega
    subst ex
    exact xa_vret dX7_writeByes_52 rfl ⟨rfl, rfl, by rw [← eU]; exact hW, hf⟩
  · refine xa_aload_n (pc := 10) dX7_writeByes_10 rfl ?_
    refine xa_getA (pc := 11) 7 1 (ci 0 127) lfX7_17 dX7_writeByes_11 hX.c_m129 (kd_129 _) rfl hX.c_r1 ?_
    refine xa_iload_n (pc := 14) dX7_writeByes_14 rfl ?_
    refine xa_aaldS (pc := 15) x (ci x 128) dX7_writeByes_15 hX.c_m127 rfl (by omega) (hX.sA (by omega)) ?_
    refine xa_astore_n (pc := 16) dX7_writeByes_16 (by decide) ?_
    refine xa_aload_n (pc := 17) dX7_writeByes_17 rfl ?_
    refine xa_getA (pc := 18) 5 1 (ci (xc (U 146 x)) 0) lfX7_106 dX7_writeByes_18 (hX.sM (by omega)) (kd_128 _) rfl (hX.s_host (by omega)) ?_
    refine xa_aload_n (pc := 21) dX7_writeByes_21 rfl ?_
    refine xa_acmpC_ne (pc := 22) 46 (x := (ci (xc (U 146 x)) 0)) (y := (ci h 0)) dX7_writeByes_22 (by decide) ((hX.hS (hX.hO (by omega))).1 0 (by decide)) ((hX.hS hh).1 0 (by decide)) (fun h22 => ?_) (fun h22 => ?_)
    · have h22 : ¬ ((xc (U 146 x)) = h) := fun q => h22 (ci_i.mpr q)
      refine xa_iinc (pc := 46) (v := nI (x + 1)) dX7_writeByes_46 rfl (by decide) (nI_1 _) ?_
      refine xa_goto (pc := 49) (tgt := 2) dX7_writeByes_49 (by decide) ?_
      exact xa_fgk (ih (by omega) _ _ hW (by rw [xa_lp, ← eU, xm_by1, if_pos (Or.inl (fun g => h22 ((hX.own (by omega) (by omega)).mp g)))]) hnb hf) (And.intro rfl (And.intro rfl (And.intro rfl trivial)))
    · have h22 := ci_i.mp h22
      refine xa_aload_n (pc := 25) dX7_writeByes_25 rfl ?_
      refine xa_getIv (pc := 26) 5 10 _ lfX7_109 dX7_writeByes_26 (hX.sM (by omega)) (kd_128 _) rfl (hX.s_hasBye (by omega)) ?_
      refine xa_if_eq (pc := 29) 46 dX7_writeByes_29 (by decide) (fun h29 => ?_) (fun h29 => ?_)
      · refine xa_iinc (pc := 46) (v := nI (x + 1)) dX7_writeByes_46 rfl (by decide) (nI_1 _) ?_
        refine xa_goto (pc := 49) (tgt := 2) dX7_writeByes_49 (by decide) ?_
        exact xa_fgk (ih (by omega) _ _ hW (by rw [xa_lp, ← eU, xm_by1, if_pos (Or.inr h29)]) hnb hf) (And.intro rfl (And.intro rfl (And.intro rfl trivial)))
      · refine xa_aload_n (pc := 32) dX7_writeByes_32 rfl ?_
        refine xa_getA (pc := 33) 3 15 (lt R h) lfX7_280 dX7_writeByes_33 ((hX.hS hh).1 0 (by decide)) (kd_0 _) rfl (hX.l_rl hh) ?_
        refine xa_iload_n (pc := 36) dX7_writeByes_36 rfl ?_
        refine xa_iconst (pc := 37) (v := 0) dX7_writeByes_37 (by decide) ?_
        refine xa_callV (pc := 38) ((hX.l_cl hh)).1 ((hX.l_cl hh)).2.1 rfl lcX7_322 dX7_writeByes_38 (cx_addBye E (hX.l_cl hh) (s := x) rfl (by omega) _) rfl rfl (by decide) (Nat.le_of_ble_eq_true rfl) (by decide) ?_
        rintro _ _ _ ⟨rfl, rfl, rfl⟩
        refine xa_aload_n (pc := 41) dX7_writeByes_41 rfl ?_
        refine xa_iconst (pc := 42) (v := 0) dX7_writeByes_42 (by decide) ?_
        refine xa_putI (pc := 43) 5 10 lpX7_109 dX7_writeByes_43 (hX.sM (by omega)) (kd_128 _) rfl rfl rfl ?_
        refine xa_iinc (pc := 46) (v := nI (x + 1)) dX7_writeByes_46 rfl (by decide) (nI_1 _) ?_
        refine xa_goto (pc := 49) (tgt := 2) dX7_writeByes_49 (by decide) ?_
        have w1 := addBye_cur hW hh (show x < 32 by omega) (b := 0)
        have r2 := rx_nobye w1.1 (s := x) (by omega)
        have w2 := w1.base hh r2 (fl_up fl_rf (by decide) (by decide)) (fun a ha => up_o (by omega))
        rw [zor] at w2
        exact xa_fgk (ih (by omega) _ _ w2 (by rw [xa_lp, ← eU, xm_by1, if_neg (fun g => g.elim (fun g => g ((hX.own (by omega) (by omega)).mpr h22)) (fun g => h29 g)), up_comm (a := 186) (b := 155) (by decide), up_comm (a := 185) (b := 155) (by decide), hnb]) hnb (fun z lz nz => by rw [up_o (Ne.symm (ci_nl (by decide) (by decide) lz)), lx_addBye_o nz]; exact hf z lz nz)) (And.intro rfl (And.intro rfl (And.intro rfl trivial)))
set_option maxHeartbeats 4000000 in
theorem cx_writeByesF (E : xa_EV) {L : List Nat} {T : xa_AH} {R : xa_AR} {nh ns h : Nat} {pw : Nat → Nat} {S : xa_AH} {nb : Int32} (hW : WX nh ns h pw L T R S nb) (hh : h < nh) (hnb : nb = 1 <<< (S 131 h &&& 31))  : xa_Ct E mX7_writeByes [.ref (ci 0 129), .ref (ci h 0)] L T R (PWF nh ns h pw L T R (xm_by ns h (pw h) S) nb) := by
  refine xa_Ct.of [some (.ref (ci 0 129)), some (.ref (ci h 0)), none, none] rfl (Nat.le_of_ble_eq_true rfl) (by simp [Value.category]) rfl ?_
  have hX := hW.1
  have n12 := hX.n12
  have n32 := hX.n32
  refine xa_iconst (pc := 0) (v := 0) dX7_writeByes_0 (by decide) ?_
  refine xa_istore_n (pc := 1) dX7_writeByes_1 (by decide) ?_
  exact xa_fgk (lx_wbyF E hh 0 (Nat.zero_le _) _ _ hW rfl hnb (fun _ _ _ => rfl)) (And.intro rfl (And.intro rfl (And.intro rfl trivial)))
theorem by1_a {h wr s a : Nat} {S : xa_AH} (h1 : a ≠ 155) (h2 : a ≠ 185) (h3 : a ≠ 186) : xm_by1 h wr s S a = S a := by
  unfold xm_by1; split
  · rfl
  · rw [up_o h3, up_o h2, up_o h1]
theorem by_a {ns h wr a : Nat} {S : xa_AH} (ha : a < 150) : xm_by ns h wr S a = S a := lp_a (fun i V => by1_a (by omega) (by omega) (by omega)) _ _
theorem cl1_a {h wr s a : Nat} {S : xa_AH} (ha : a < 150) : xm_cl1 h wr s S a = S a := by
  unfold xm_cl1; split
  · rfl
  · rw [up_o (by omega), up_o (by omega), up_o (by omega)]
theorem as1_a {ns h wr s a : Nat} {t : Int32} {S : xa_AH} (ha : a < 150) : xm_as1 ns h wr t s S a = S a := by
  unfold xm_as1; split
  · rfl
  · rw [up_o (by omega), up_o (by omega), up_o (by omega), up_o (by omega), up_o (by omega)]
/-- what a plain host writes -/
def xm_pl (ns h wr : Nat) (t : Int32) (S : xa_AH) : xa_AH := xa_lp (xm_an1 h t) ns (xm_te ns h wr t (xm_by ns h wr (xa_lp (xm_cl1 h wr) ns (xm_as ns h wr t (xm_clr wr S)))))
theorem pl_a {ns h wr a : Nat} {t : Int32} {S : xa_AH} (ha : a < 150) : xm_pl ns h wr t S a = S a := by
  unfold xm_pl xm_te xm_as
  rw [lp_a (fun i V => an1_a (by omega)), lp_a (fun i V => te1_a (by omega) (by omega)), by_a ha, lp_a (fun i V => cl1_a ha), lp_a (fun i V => as1_a ha), clr_a (by omega)]
