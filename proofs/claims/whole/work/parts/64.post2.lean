def px (T : xa_AH) (h q : Nat) (net : Int32) : xa_AH := if lne T q = true then xa_up (xa_up (xa_up (xa_up T q 0 net) (ci h 0) 14 (T (ci h 0) 14 + 1)) (ci 0 129) 5 (T (ci 0 129) 5 + 1)) (ci 0 129) 6 (T (ci 0 129) 6 + 1) else T
set_option maxHeartbeats 4000000 in
theorem cx_post (E : xa_EV) {L : List Nat} {T : xa_AH} {R : xa_AR} {h q : Nat} (hm : ci 0 129 ∈ L) (hS : cs_h L R h) (hq : cs_l L R q) (hl : lcell q) (net : Int32) : xa_Ct E mX7_post [.ref (ci 0 129), .ref (ci h 0), .ref q, .int net] L T R (xa_pV (px T h q net) R) := by
  refine xa_Ct.of [some (.ref (ci 0 129)), some (.ref (ci h 0)), some (.ref q), some (.int net)] rfl (Nat.le_of_ble_eq_true rfl) (by simp [Value.category]) rfl ?_
  refine xa_aload_n (pc := 0) dX7_post_0 rfl ?_
  refine xa_callV (pc := 1) (hq).1 (hq).2.1 rfl lcX7_347 dX7_post_1 (cx_lempty E hq) rfl rfl (by decide) (Nat.le_of_ble_eq_true rfl) (by decide) ?_
  rintro _ _ _ ⟨rfl, rfl, rfl⟩
  refine xa_if_eq (pc := 4) 8 dX7_post_4 (by decide) (fun h4 => ?_) (fun h4 => ?_)
  · have h4 := xa_b_0.mp h4
    refine xa_aload_n (pc := 8) dX7_post_8 rfl ?_
    refine xa_iload_n (pc := 9) dX7_post_9 rfl ?_
    refine xa_putI (pc := 10) 4 0 lpX7_348 dX7_post_10 (hq).1 (hq).2.1 rfl rfl rfl ?_
    refine xa_aload_n (pc := 13) dX7_post_13 rfl ?_
    refine xa_dup (pc := 14) dX7_post_14 rfl ?_
    refine xa_getIv (pc := 15) 3 14 (T (ci h 0) 14) lfX7_213 dX7_post_15 (hS.1 0 (by decide)) (kd_0 _) rfl (congrFun (up_o (ci_nl (by decide) (by decide) hl)) 14) ?_
    refine xa_iconst (pc := 18) (v := 1) dX7_post_18 (by decide) ?_
    refine xa_iadd (pc := 19) dX7_post_19 ?_
    refine xa_putI (pc := 20) 3 14 lpX7_213 dX7_post_20 (hS.1 0 (by decide)) (kd_0 _) rfl rfl rfl ?_
    refine xa_aload_n (pc := 23) dX7_post_23 rfl ?_
    refine xa_dup (pc := 24) dX7_post_24 rfl ?_
    refine xa_getIv (pc := 25) 7 5 (T (ci 0 129) 5) lfX7_226 dX7_post_25 hm (kd_129 _) rfl (by rw [up_o (ci_ne (by decide) (by decide) (by decide)), up_o (ci_nl (by decide) (by decide) hl)]) ?_
    refine xa_iconst (pc := 28) (v := 1) dX7_post_28 (by decide) ?_
    refine xa_iadd (pc := 29) dX7_post_29 ?_
    refine xa_putI (pc := 30) 7 5 lpX7_226 dX7_post_30 hm (kd_129 _) rfl rfl rfl ?_
    refine xa_aload_n (pc := 33) dX7_post_33 rfl ?_
    refine xa_dup (pc := 34) dX7_post_34 rfl ?_
    refine xa_getIv (pc := 35) 7 6 (T (ci 0 129) 6) lfX7_244 dX7_post_35 hm (kd_129 _) rfl (by rw [up_k (by decide), up_o (ci_ne (by decide) (by decide) (by decide)), up_o (ci_nl (by decide) (by decide) hl)]) ?_
    refine xa_iconst (pc := 38) (v := 1) dX7_post_38 (by decide) ?_
    refine xa_iadd (pc := 39) dX7_post_39 ?_
    refine xa_putI (pc := 40) 7 6 lpX7_244 dX7_post_40 hm (kd_129 _) rfl rfl rfl ?_
    exact xa_vret dX7_post_43 rfl ⟨rfl, if_pos (by unfold lne; rw [h4]; rfl), rfl⟩
  · have h4 := xa_b_n0.mp h4
    exact xa_vret dX7_post_7 rfl ⟨rfl, if_neg (by unfold lne; rw [h4]; decide), rfl⟩
theorem lr_slot0 {T : xa_AH} {q r : Nat} {S : xa_AH} {nb v : Int32} (g : lr T q S r nb) : lr (xa_up T q 0 v) q S r nb := by
  have e : ∀ j, j ≠ 0 → xa_up T q 0 v q j = T q j := fun j hj => up_k hj
  have e2 : ∀ d, d ≠ 0 → xa_up T q 0 v (q + d) = T (q + d) := fun d hd => up_o (by omega)
  simp only [lr, e 1 (by decide), e 5 (by decide), e 8 (by decide), e 10 (by decide), e2 3 (by decide), e2 4 (by decide), e2 5 (by decide), e2 7 (by decide), e2 8 (by decide), e2 10 (by decide), e2 12 (by decide), e2 13 (by decide), e2 14 (by decide), e2 15 (by decide)]
  exact g
theorem px_q {T : xa_AH} {h q : Nat} {net : Int32} (hl : lcell q) (hne : lne T q = true) : px T h q net q 0 = net ∧ ∀ a, lcell a → px T h q net a = xa_up T q 0 net a := by
  unfold px
  rw [if_pos hne]
  refine ⟨by rw [up_l (by decide) (by decide) hl, up_l (by decide) (by decide) hl, up_l (by decide) (by decide) hl, up_s], fun a ha => by rw [up_l (by decide) (by decide) ha, up_l (by decide) (by decide) ha, up_l (by decide) (by decide) ha]⟩
/-- a letter that isn't empty is posted: q0 the letter, r0 its row -/
theorem RX_post {nh ns h : Nat} {pw : Nat → Nat} {L : List Nat} {T : xa_AH} {R : xa_AR} {S : xa_AH} (hX : RX nh ns h pw L T R S) {q0 r0 : Nat} {net nb : Int32} (hh : h < nh) (hq0 : q0 = lt R h ∨ (q0 = l2 R h ∧ ¬ S 139 h = 0)) (hr0 : pw h ≤ r0 ∧ r0 < 24) (hlr : lr T q0 S r0 nb) (hne : lne T q0 = true) (hnb : nb = 1 <<< (net &&& 31)) (hnet : vp_in net 4) : RX nh ns h pw L (px T h q0 net) R (xm_wr S r0 h net) ∧ lrow (px T h q0 net) (xm_wr S r0 h net) h q0 r0 := by
  have hlat : lat h q0 := by
    rcases hq0 with e | e
    · rw [e]; exact lat_lt hX hh
    · rw [e.1]; exact (lat_b hX hh e.2).1
  have hl := (lat_lc hlat).1
  have hb : xm_bare S r0 = false := by
    have := lne_bare hlr
    rw [hne] at this; simpa using this.symm
  have es : xm_wr S r0 h net = (xa_up (xa_up (xa_up (xa_up (xa_up (xa_up S 176 r0 (nI h)) 177 r0 net) 130 47 (S 130 47 + 1)) 142 h (S 142 h + 1)) 130 37 (S 130 37 + 1)) 130 43 (S 130 43 + 1)) := by
    unfold xm_wr; rw [if_neg (by rw [hb]; decide)]
  have et : px T h q0 net = xa_up (xa_up (xa_up (xa_up T q0 0 net) (ci h 0) 14 (S 142 h + 1)) (ci 0 129) 5 (S 130 37 + 1)) (ci 0 129) 6 (S 130 43 + 1) := by
    unfold px; rw [if_pos hne, hX.h_written hh, hX.g_letters, hX.g_lately]
  have r1 : RX nh ns h pw L (xa_up T q0 0 net) R S := by
    rcases hq0 with e | e
    · exact RX_cur hX hh (fun a g => up_o (by rw [e]; omega)) (fun a _ => rfl) (fun r _ _ => rowsame_rf)
    · exact RX_cur2 hX (r0 := r0) hh e.2 hr0 (fun a g => up_o (by rw [e.1]; omega)) (fun a _ => rfl) (fun r _ _ => rowsame_rf)
  have r7 := rx_clately (v := S 130 43 + 1) (rx_cletters (v := S 130 37 + 1) (rx_written (v := S 142 h + 1) (RX_47 (v := S 130 47 + 1) (RX_17x (b := 177) (v := net) (RX_17x (b := 176) (v := nI h) r1 hr0.1 (Or.inl rfl)) hr0.1 (Or.inr rfl))) hh))
  have pq := px_q (h := h) (net := net) hl hne
  refine ⟨by rw [es, et]; exact r7, ?_⟩
  refine ⟨by rw [es]; simp [xa_up], by rw [es, pq.1]; simp [xa_up], by rw [pq.1]; exact hnet, ?_⟩
  rw [pq.1, ← hnb]
  have e2 : rowsame S (xm_wr S r0 h net) r0 := by
    rw [es]
    exact rowsame_up (rowsame_up (rowsame_up (rowsame_up (rowsame_up (rowsame_up rowsame_rf (by omega)) (by omega)) (by omega)) (by omega)) (by omega)) (by omega)
  exact lr_row e2 (lr_cell (fun d hd => pq.2 _ (lc_q (lat_lc hlat) hd)) (lr_slot0 hlr))
theorem wr_bare {S : xa_AH} {wr h : Nat} {net : Int32} (hb : xm_bare S wr = true) : xm_wr S wr h net = S := by
  unfold xm_wr; rw [if_pos hb]
theorem px_no {T : xa_AH} {h q : Nat} {net : Int32} (hne : lne T q = false) : px T h q net = T := by
  unfold px; rw [if_neg (by rw [hne]; decide)]
theorem wr_47 {S : xa_AH} {wr h : Nat} {net : Int32} (hb : xm_bare S wr = false) : xm_wr S wr h net 130 47 = S 130 47 + 1 := by
  unfold xm_wr; rw [if_neg (by rw [hb]; decide)]; simp [xa_up]
theorem wr_a {S : xa_AH} {wr h a : Nat} {net : Int32} (h1 : a ≠ 130) (h2 : a ≠ 142) (h3 : a ≠ 176) (h4 : a ≠ 177) : xm_wr S wr h net a = S a := by
  unfold xm_wr; split
  · rfl
  · rw [up_o h1, up_o h1, up_o h2, up_o h1, up_o h4, up_o h3]
/-- a plain host has written its letter -/
theorem RX_done1 {nh ns h : Nat} {pw : Nat → Nat} {L : List Nat} {T : xa_AH} {R : xa_AR} {S : xa_AH} {nb net : Int32} (hW : WX nh ns h pw L T R S nb) (hh : h < nh) (h9 : S 139 h = 0) (nl : S 137 h = 0) (h47 : S 130 47 = nI (pw h)) (hnb : nb = 1 <<< (net &&& 31)) (hnet : vp_in net 4) : ∃ pw2, RX nh ns (h + 1) pw2 L (px T h (lt R h) net) R (xm_wr S (pw h) h net) ∧ xm_wr S (pw h) h net 130 47 = nI (pw2 (h + 1)) := by
  have hX := hW.1
  have n12 := hX.n12
  have b := hX.pwb h (Nat.le_refl _)
  have lb := lne_bare hW.2
  by_cases g : lne T (lt R h) = true
  · obtain ⟨r1, r2⟩ := RX_post hX hh (Or.inl rfl) ⟨Nat.le_refl _, by omega⟩ hW.2 g hnb hnet
    have hb : xm_bare S (pw h) = false := by rw [g] at lb; simpa using lb.symm
    have e0 : px T h (lt R h) net (lt R h) = xa_up T (lt R h) 0 net (lt R h) := (px_q (lat_lc (lat_lt hX hh)).1 g).2 _ (lat_lc (lat_lt hX hh)).1
    have g2 : lne (px T h (lt R h) net) (lt R h) = true := by
      have ea : lx_all (px T h (lt R h) net) (lt R h) = lx_all T (lt R h) := by unfold lx_all; rw [e0, up_k (by decide), up_k (by decide), up_k (by decide), up_k (by decide)]
      rw [← g]; unfold lne; rw [ea]
    have nx := RX_next r1 hh (by rw [wr_a (by decide) (by decide) (by decide) (by decide)]; exact nl) (fun _ => r2) (fun c => by rw [wr_a (by decide) (by decide) (by decide) (by decide)] at c; exact absurd h9 c)
    refine ⟨_, nx, ?_⟩
    rw [wr_47 hb, h47, nI_1]
    simp only [show ¬ h + 1 ≤ h by omega, if_false, g2, if_true]
    rw [if_neg (fun c => by rw [wr_a (by decide) (by decide) (by decide) (by decide)] at c; exact c.1 h9)]
  · have g' : lne T (lt R h) = false := by simpa using g
    have hb : xm_bare S (pw h) = true := by rw [g'] at lb; simpa using lb.symm
    rw [px_no g', wr_bare hb]
    have nx := RX_next hX hh nl (fun c => absurd c g) (fun c => absurd h9 c)
    refine ⟨_, nx, ?_⟩
    rw [h47]
    simp only [show ¬ h + 1 ≤ h by omega, if_false, g']
    simp [h9]
def lx_cls (S T : xa_AH) (R : xa_AR) (h : Nat) : xa_AH := if S 139 h = 0 then lx_clear T (lt R h) else lx_clear (lx_clear T (lt R h)) (l2 R h)
set_option maxHeartbeats 4000000 in
theorem cx_clearLetters (E : xa_EV) {L : List Nat} {T : xa_AH} {R : xa_AR} {nh ns k : Nat} {pw : Nat → Nat} {S : xa_AH} (hX : RX nh ns k pw L T R S) {h : Nat} (hh : h < nh) : xa_Ct E mX3_clearLetters [.ref (ci h 0)] L T R (xa_pV (lx_cls S T R h) R) := by
  refine xa_Ct.of [some (.ref (ci h 0))] rfl (Nat.le_of_ble_eq_true rfl) (by simp [Value.category]) rfl ?_
  refine xa_aload_n (pc := 0) dX3_clearLetters_0 rfl ?_
  refine xa_getA (pc := 1) 3 15 (lt R h) lfX3_39 dX3_clearLetters_1 ((hX.hS hh).1 0 (by decide)) (kd_0 _) rfl (hX.l_rl hh) ?_
  refine xa_callV (pc := 4) ((hX.l_cl hh)).1 ((hX.l_cl hh)).2.1 rfl lcX3_74 dX3_clearLetters_4 (cx_lclear E (hX.l_cl hh)) rfl rfl (by decide) (Nat.le_of_ble_eq_true rfl) (by decide) ?_
  rintro _ _ _ ⟨rfl, rfl, rfl⟩
  refine xa_aload_n (pc := 7) dX3_clearLetters_7 rfl ?_
  by_cases hb8 : S 139 h = 0
  · refine xa_getR (pc := 8) 3 11 none lfX3_58 dX3_clearLetters_8 ((hX.hS hh).1 0 (by decide)) (kd_0 _) rfl (hX.h_br0 hh hb8) ?_
    refine xa_ifnull_null (pc := 11) 24 dX3_clearLetters_11 (by decide) ?_
    exact xa_vret dX3_clearLetters_24 rfl ⟨rfl, by unfold lx_cls; rw [if_pos hb8]; rfl, rfl⟩
  · refine xa_getA (pc := 8) 3 11 (ci h 80) lfX3_58 dX3_clearLetters_8 ((hX.hS hh).1 0 (by decide)) (kd_0 _) rfl (hX.h_br1 hh hb8) ?_
    refine xa_ifnull_ref (pc := 11) dX3_clearLetters_11 ?_
    refine xa_aload_n (pc := 14) dX3_clearLetters_14 rfl ?_
    refine xa_getA (pc := 15) 3 11 (ci h 80) lfX3_58 dX3_clearLetters_15 ((hX.hS hh).1 0 (by decide)) (kd_0 _) rfl (hX.h_br1 hh hb8) ?_
    refine xa_getA (pc := 18) 2 2 (l2 R h) lfX3_75 dX3_clearLetters_18 (hX.l_br hh hb8).1 (kd_80 _) rfl (hX.l_br hh hb8).2.1 ?_
    refine xa_callV (pc := 21) (((hX.l_br hh hb8).2.2.2.2.1)).1 (((hX.l_br hh hb8).2.2.2.2.1)).2.1 rfl lcX3_74 dX3_clearLetters_21 (cx_lclear E ((hX.l_br hh hb8).2.2.2.2.1)) rfl rfl (by decide) (Nat.le_of_ble_eq_true rfl) (by decide) ?_
    rintro _ _ _ ⟨rfl, rfl, rfl⟩
    exact xa_vret dX3_clearLetters_24 rfl ⟨rfl, by unfold lx_cls; rw [if_neg hb8]; rfl, rfl⟩
