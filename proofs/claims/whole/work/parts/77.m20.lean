theorem yld_47 {ns : Nat} {S : xa_AH} {s : Nat} : xm_yld ns S s 130 47 = S 130 47 := by
  rw [yld_e, yl4_130 (by decide)]; rfl
theorem ht1_47 {ns h s x : Nat} {n t : Int32} {S : xa_AH} : xm_ht1 ns h s n t x S 130 47 = S 130 47 := by
  unfold xm_ht1; split
  · rfl
  · split
    · exact yld_47
    · rw [due_a (by decide)]
theorem ha_47 {nh ns x l kd : Nat} {d : Int32} {U : xa_AH} : xm_ha nh ns x l kd d U 130 47 = U 130 47 := by
  have g1 : (if ¬ U 164 (16 * x + kd) = 0 ∧ U 165 (16 * x + kd) = U 180 (16 * l + kd) ∧ U 181 (16 * l + kd) &&& (xm_kn ns U x (nI kd) d ^^^ (-1)) = 0 then xa_up U 164 (16 * x + kd) 0 else U) 130 47 = U 130 47 := by
    split <;> rfl
  unfold xm_ha xm_haD xm_haC
  generalize (if ¬ U 164 (16 * x + kd) = 0 ∧ U 165 (16 * x + kd) = U 180 (16 * l + kd) ∧ U 181 (16 * l + kd) &&& (xm_kn ns U x (nI kd) d ^^^ (-1)) = 0 then xa_up U 164 (16 * x + kd) 0 else U) = V at g1 ⊢
  rw [← g1]
  split
  · unfold xm_haB
    refine lp_c (fun i W => ?_) ns V
    unfold xm_ha1; split
    · rfl
    · split
      · split
        · rw [due_a (by decide)]
        · rfl
      · split
        · rw [due_a (by decide)]
        · rfl
  · rfl
theorem hc1_47 {ns h s x : Nat} {n t : Int32} {S : xa_AH} : xm_hc1 ns h s n t x S 130 47 = S 130 47 := by
  unfold xm_hc1; split
  · rfl
  · split
    · rw [due_a (by decide)]
    · split
      · exact yld_47
      · rfl
theorem ht_47 {ns x s row : Nat} {d : Int32} {U : xa_AH} : xm_ht ns x s row d U 130 47 = U 130 47 := by
  unfold xm_ht; split
  · rw [← lp_c (f := xm_ht1 ns x s (U 187 row) d) (a := 130) (b := 47) (fun i S => ht1_47) ns U]
    generalize U 187 row = n0
    generalize U 189 row = d0
    generalize xa_lp (xm_ht1 ns x s n0 d) ns U = V
    unfold xm_htD
    have g2 : (if 2 * d0 < V 150 s then V else xa_up V 163 (32 * x + s) (-1)) 130 47 = V 130 47 := by
      split <;> rfl
    generalize (if 2 * d0 < V 150 s then V else xa_up V 163 (32 * x + s) (-1)) = W at g2 ⊢
    rw [← g2]
    unfold xm_htC; split
    · rfl
    · unfold xm_htB; split
      · rfl
      · unfold xm_htS
        show xa_lp (xm_ht3 x s n0) ns W 130 47 = _
        refine lp_c (fun i Z => ?_) ns W
        unfold xm_ht3; split <;> rfl
  · rfl
theorem hears_47 {nh ns h l : Nat} {t : Int32} {S : xa_AH} : xm_hears nh ns h l t S 130 47 = S 130 47 := by
  unfold xm_hears
  rw [lp_c (fun i V => by unfold xm_he4; split <;> first | rfl | exact ht_47), lp_c (fun i V => by unfold xm_he3; split <;> rfl), lp_c (fun i V => by unfold xm_he2; split <;> first | rfl | exact lp_c (fun j W => hc1_47) _ _), lp_c (fun i V => by unfold xm_he1; split <;> first | rfl | exact ha_47)]
theorem ih1_47 {nh ns l w h : Nat} {t : Int32} {S : xa_AH} : xm_ih1 nh ns l w t h S 130 47 = S 130 47 := by
  unfold xm_ih1; split
  · rfl
  · split
    · exact congrFun (up_o (by decide)) 47
    · split
      · exact hears_47
      · exact cy_c (by decide)
theorem ih_47 {nh ns l : Nat} {t : Int32} {S : xa_AH} : xm_ih nh ns l t S 130 47 = S 130 47 := by
  unfold xm_ih; split
  · exact lp_c (fun i U => ih1_47) _ _
  · rfl
theorem fb_by1 {h wr s : Nat} {S : xa_AH} (g : xm_fb S) : xm_fb (xm_by1 h wr s S) := by
  unfold xm_by1; split
  · exact g
  · exact fb_up (fb_up (fb_up g (Or.inl (by decide))) (Or.inr (Or.inr rfl))) (Or.inl (by decide))
theorem fb_as1 {ns h wr k : Nat} {t : Int32} {S : xa_AH} (g : xm_fb S) : xm_fb (xm_as1 ns h wr t k S) := by
  unfold xm_as1; split
  · exact g
  · exact fb_up (fb_up (fb_up (fb_up (fb_up g (Or.inl (by decide))) (Or.inr (Or.inr rfl))) (Or.inl (by decide))) (Or.inl (by decide))) (Or.inl (by decide))
theorem fb_cl1 {h wr s : Nat} {S : xa_AH} (g : xm_fb S) : xm_fb (xm_cl1 h wr s S) := by
  unfold xm_cl1; split
  · exact g
  · exact fb_up (fb_up (fb_up g (Or.inl (by decide))) (Or.inl (by decide))) (Or.inl (by decide))
theorem fb_gone {h : Nat} {S : xa_AH} (g : xm_fb S) : xm_fb (xm_gone h S) := by
  unfold xm_gone xm_gn2
  refine fb_clr (fb_clr ?_)
  have e1 : ∀ V : xa_AH, ∀ a, 179 ≤ a → xa_lp (xm_gn1 h) 16 V a = V a := fun V a ha => by funext y; rw [gn1_e, if_neg (by omega)]
  have e2 : ∀ V : xa_AH, ∀ a, 179 ≤ a → xm_emp h V a = V a := fun V a ha => by funext y; rw [emp_e, if_neg (by omega), if_neg (by omega)]
  refine fb_of g ?_ ?_
  · rw [e1 _ _ (by decide), e2 _ _ (by decide), up_o (by decide), up_o (by decide), up_o (by decide), up_o (by decide)]
  · rw [e1 _ _ (by decide), e2 _ _ (by decide), up_o (by decide), up_o (by decide), up_o (by decide), up_o (by decide)]
theorem gone_b {h a : Nat} {S : xa_AH} (ha : a < 179) (h1 : a ≠ 136) (h2 : a ≠ 137) (h3 : a ≠ 138) (h4 : a ≠ 141) (h5 : a ≠ 158) (h6 : a ≠ 163) (h7 : a ≠ 164) : xm_gone h S a = S a := by
  unfold xm_gone xm_gn2
  rw [clr_a ha, clr_a ha]
  have e1 : ∀ V : xa_AH, xa_lp (xm_gn1 h) 16 V a = V a := fun V => by funext y; rw [gn1_e, if_neg (by omega)]
  have e2 : ∀ V : xa_AH, xm_emp h V a = V a := fun V => by funext y; rw [emp_e, if_neg (by omega), if_neg (by omega)]
  rw [e1, e2, up_o (by omega), up_o (by omega), up_o (by omega), up_o (by omega)]
theorem fb_cy1 {h l to k : Nat} {net : Int32} {S : xa_AH} (g : xm_fb S) : xm_fb (xm_cy1 h l to net k S) := by
  unfold xm_cy1; split
  · exact g
  · exact fb_up (fb_up (fb_up (fb_up (fb_up g (Or.inr (Or.inr rfl))) (Or.inl (by decide))) (Or.inl (by decide))) (Or.inl (by decide))) (Or.inl (by decide))
theorem fb_cy2 {h l to k : Nat} {net : Int32} {S : xa_AH} (g : xm_fb S) : xm_fb (xm_cy2 h l to net k S) := by
  unfold xm_cy2
  have a : xm_fb (xm_cyC h l to net k S) := fb_of g (cyC_a (by decide) (by decide)) (cyC_a (by decide) (by decide))
  generalize xm_cyC h l to net k S = V at a ⊢
  have b : xm_fb (xm_cyB h l to net k V) := by
    unfold xm_cyB; split
    · exact fb_up (fb_up (fb_up a (Or.inl (by decide))) (Or.inr (Or.inr rfl))) (Or.inl (by decide))
    · exact a
  generalize xm_cyB h l to net k V = W at b ⊢
  exact fb_of b (cyT_a (by decide) (by decide)) (cyT_a (by decide) (by decide))
theorem fb_cy {ns h l : Nat} {S : xa_AH} (g : xm_fb S) : xm_fb (xm_cy ns h l S) := by
  have k : ∀ to net, xm_fb (xm_cyL ns h l to net S) := fun to net => by
    unfold xm_cyL
    exact xa_lp_inv (xa_lp_inv g (fun i U _ hU => fb_cy1 hU)) (fun i U _ hU => fb_cy2 hU)
  unfold xm_cy; split
  · exact k _ _
  · exact k _ _
theorem wi_ih {nh ns l : Nat} {t : Int32} {S : xa_AH} (g : xm_wi nh ns S) : xm_wi nh ns (xm_ih nh ns l t S) := by
  refine ⟨wf_ih g.1, nm_ih g.2.1, ?_⟩
  unfold xm_ih; split
  · refine xa_lp_inv g.2.2 (fun i U _ hU => ?_)
    unfold xm_ih1; split
    · exact hU
    · split
      · exact fb_up hU (Or.inl (by decide))
      · split
        · exact fb_of hU (hears_ge (by decide)) (hears_ge (by decide))
        · exact fb_cy hU
  · exact fb_up (fb_up g.2.2 (Or.inl (by decide))) (Or.inl (by decide))
theorem wi_lp {nh ns n : Nat} {f : Nat → xa_AH → xa_AH} {S : xa_AH} (g : xm_wi nh ns S) (h1 : ∀ i U, xm_wf nh ns U → xm_wf nh ns (f i U)) (h2 : ∀ i U, xm_nm nh U → xm_nm nh (f i U)) (h3 : ∀ i U, xm_fb U → xm_fb (f i U)) : xm_wi nh ns (xa_lp f n S) := ⟨xa_lp_inv g.1 (fun i U _ hU => h1 i U hU), xa_lp_inv g.2.1 (fun i U _ hU => h2 i U hU), xa_lp_inv g.2.2 (fun i U _ hU => h3 i U hU)⟩
theorem wf_cl1 {nh ns h wr s : Nat} {S : xa_AH} (g : xm_wf nh ns S) : xm_wf nh ns (xm_cl1 h wr s S) := by
  unfold xm_cl1; split
  · exact g
  · exact xm_wf_up (xm_wf_up (xm_wf_up g rfl) rfl) rfl
theorem nm_cl1 {nh h wr s : Nat} {S : xa_AH} (g : xm_nm nh S) : xm_nm nh (xm_cl1 h wr s S) := by
  unfold xm_cl1; split
  · exact g
  · exact xm_nm_up (xm_nm_up (xm_nm_up g rfl) rfl) rfl
theorem wi_by {nh ns h wr : Nat} {S : xa_AH} (g : xm_wi nh ns S) : xm_wi nh ns (xm_by ns h wr S) := wi_lp g (fun i U => xm_wf_by1) (fun i U => xm_nm_by1) (fun i U => fb_by1)
theorem wi_as {nh ns h wr : Nat} {t : Int32} {S : xa_AH} (g : xm_wi nh ns S) : xm_wi nh ns (xm_as ns h wr t S) := wi_lp g (fun i U => xm_wf_as1) (fun i U => xm_nm_as1) (fun i U => fb_as1)
theorem wi_cl {nh ns h wr n : Nat} {S : xa_AH} (g : xm_wi nh ns S) : xm_wi nh ns (xa_lp (xm_cl1 h wr) n S) := wi_lp g (fun i U => wf_cl1) (fun i U => nm_cl1) (fun i U => fb_cl1)
theorem wi_te {nh ns h wr : Nat} {t : Int32} {S : xa_AH} (g : xm_wi nh ns S) : xm_wi nh ns (xm_te ns h wr t S) := wi_lp g (fun i U => xm_wf_te1) (fun i U => xm_nm_te1) (fun i U k => fb_of k (te1_a (by decide) (by decide)) (te1_a (by decide) (by decide)))
theorem wi_an {nh ns h n : Nat} {t : Int32} {S : xa_AH} (g : xm_wi nh ns S) : xm_wi nh ns (xa_lp (xm_an1 h t) n S) := wi_lp g (fun i U k => wf_of k (by rw [an1_a (by decide)]) (by rw [an1_a (by decide)]) (an1_a (by decide))) (fun i U k => nm_of k (an1_a (by decide)) (an1_a (by decide))) (fun i U k => fb_of k (an1_a (by decide)) (an1_a (by decide)))
theorem wi_hd {nh ns n : Nat} {t : Int32} {S : xa_AH} (g : xm_wi nh ns S) : xm_wi nh ns (xa_lp (xm_hd1 t) n S) := wi_lp g (fun i U k => wf_of k (by rw [hd1_a (by decide) (by decide)]) (by rw [hd1_a (by decide) (by decide)]) (hd1_a (by decide) (by decide))) (fun i U k => nm_of k (hd1_a (by decide) (by decide)) (hd1_a (by decide) (by decide))) (fun i U k => fb_of k (hd1_a (by decide) (by decide)) (hd1_a (by decide) (by decide)))
theorem wi_fg {nh ns n h : Nat} {t : Int32} {S : xa_AH} (g : xm_wi nh ns S) : xm_wi nh ns (xa_lp (xm_fg1 h t) n S) := wi_lp g (fun i U k => wf_of k (by rw [fg1_a (by decide)]) (by rw [fg1_a (by decide)]) (fg1_a (by decide))) (fun i U k => nm_of k (fg1_a (by decide)) (fg1_a (by decide))) (fun i U k => fb_of k (fg1_a (by decide)) (fg1_a (by decide)))
theorem wi_wr {nh ns wr h : Nat} {net : Int32} {S : xa_AH} (g : xm_wi nh ns S) : xm_wi nh ns (xm_wr S wr h net) := by
  unfold xm_wr; split
  · exact g
  · exact wi_up (wi_up (wi_up (wi_up (wi_up (wi_up g rfl rfl (Or.inl (by decide))) rfl rfl (Or.inl (by decide))) rfl rfl (Or.inl (by decide))) rfl rfl (Or.inl (by decide))) rfl rfl (Or.inl (by decide))) rfl rfl (Or.inl (by decide))
theorem wi_gone {nh ns h : Nat} {S : xa_AH} (g : xm_wi nh ns S) : xm_wi nh ns (xm_gone h S) := by
  have e : ∀ a, a = 130 ∨ a = 146 ∨ a = 133 ∨ a = 134 → xm_gone h S a = S a := fun a q => gone_b (by omega) (by omega) (by omega) (by omega) (by omega) (by omega) (by omega) (by omega)
  exact wi_of g (by rw [e 130 (by decide)]) (by rw [e 130 (by decide)]) (e _ (by decide)) (e _ (by decide)) (e _ (by decide)) (fb_gone g.2.2)
theorem tkC_a {wr fr a : Nat} {b : Int32} {S : xa_AH} (ha : a < 179) : xm_tkC wr fr b S a = S a := by
  unfold xm_tkC; rw [clr_a ha, lp_a (fun i U => tk2_a ha), lp_a (fun i U => tk1_a ha)]
theorem wi_tk {nh ns h sd wr : Nat} {net : Int32} {S : xa_AH} (g : xm_wi nh ns S) : xm_wi nh ns (xm_tk h sd wr net S) := by
  unfold xm_tk
  refine wi_wr (wi_of g (by rw [tkC_a (by decide)]) (by rw [tkC_a (by decide)]) (tkC_a (by decide)) (tkC_a (by decide)) (tkC_a (by decide)) ?_)
  unfold xm_tkC
  exact fb_clr (xa_lp_inv (xa_lp_inv g.2.2 (fun i U _ hU => fb_tk1 hU)) (fun i U _ hU => fb_tk2 hU))
/-- the rows written so far -/
def xm_wv (nh ns n : Nat) (S : xa_AH) : Prop := xm_wi nh ns S ∧ ∃ wr, S 130 47 = nI wr ∧ wr ≤ n ∧ ∀ l, l < wr → vp_in (S 176 l) 12
theorem wv_of {nh ns n : Nat} {S S2 : xa_AH} (g : xm_wv nh ns n S) (h1 : xm_wi nh ns S2) (h2 : S2 130 47 = S 130 47) (h3 : S2 176 = S 176) : xm_wv nh ns n S2 := ⟨h1, by rw [h2, h3]; exact g.2⟩
theorem wv_wr {nh ns n wr h : Nat} {net : Int32} {S : xa_AH} (g : xm_wv nh ns n S) (hwr : S 130 47 = nI wr) (hw2 : wr < 2 ^ 31) (hn : n < 2 ^ 31) (hh : h < 12) : xm_wv nh ns (n + 1) (xm_wr S wr h net) := by
  obtain ⟨g1, w, e1, e2, e3⟩ := g
  have ew : w = wr := by have q := congrArg xc (e1.symm.trans hwr); rwa [xc_n (by omega), xc_n hw2] at q
  subst ew
  refine ⟨wi_wr g1, ?_⟩
  unfold xm_wr; split
  · exact ⟨w, e1, by omega, e3⟩
  · refine ⟨w + 1, ?_, by omega, fun l hl => ?_⟩
    · rw [up_k (by decide), up_k (by decide), up_o (by decide), up_s, ← nI_1 w, ← e1]
    · rw [up_o (by decide), up_o (by decide), up_o (by decide), up_o (by decide), up_o (by decide)]
      by_cases e : l = w
      · subst e; rw [up_s]; exact xa_in_of hh (by decide)
      · rw [up_k e]; exact e3 l (by omega)
theorem wv_mono {nh ns n m : Nat} {S : xa_AH} (g : xm_wv nh ns n S) (h : n ≤ m) : xm_wv nh ns m S := ⟨g.1, g.2.choose, g.2.choose_spec.1, Nat.le_trans g.2.choose_spec.2.1 h, g.2.choose_spec.2.2⟩
theorem tk_a {h sd wr a : Nat} {net : Int32} {S : xa_AH} (ha : a < 179) (h1 : a ≠ 130) (h2 : a ≠ 142) (h3 : a ≠ 176) (h4 : a ≠ 177) : xm_tk h sd wr net S a = S a := by
  unfold xm_tk; rw [wr_a h1 h2 h3 h4, tkC_a ha]
theorem wv_tk {nh ns n wr h sd : Nat} {net : Int32} {S : xa_AH} (g : xm_wv nh ns n S) (hwr : S 130 47 = nI wr) (hw2 : wr < 2 ^ 31) (hn : n < 2 ^ 31) (hh : h < 12) : xm_wv nh ns (n + 1) (xm_tk h sd wr net S) := by
  have g2 := wi_tk (h := h) (sd := sd) (wr := wr) (net := net) g.1
  have q : xm_wi nh ns (xm_tkC wr (24 + 2 * h + sd) (1 <<< (net &&& 31)) S) := by
    refine wi_of g.1 (by rw [tkC_a (by decide)]) (by rw [tkC_a (by decide)]) (tkC_a (by decide)) (tkC_a (by decide)) (tkC_a (by decide)) ?_
    unfold xm_tkC
    exact fb_clr (xa_lp_inv (xa_lp_inv g.1.2.2 (fun i U _ hU => fb_tk1 hU)) (fun i U _ hU => fb_tk2 hU))
  exact wv_wr (wv_of g q (by rw [tkC_a (by decide)]) (tkC_a (by decide))) (by rw [tkC_a (by decide)]; exact hwr) hw2 hn hh
theorem byy_a {ns h wr a : Nat} {S : xa_AH} (h1 : a ≠ 155) (h2 : a ≠ 185) (h3 : a ≠ 186) : xm_by ns h wr S a = S a := lp_a (fun i U => by1_a h1 h2 h3) _ _
theorem asy_a {ns h wr a : Nat} {t : Int32} {S : xa_AH} (ha : a < 150) : xm_as ns h wr t S a = S a := lp_a (fun i U => as1_a ha) _ _
theorem as1_b {ns h wr s a : Nat} {t : Int32} {S : xa_AH} (ha : a = 176) : xm_as1 ns h wr t s S a = S a := by
  unfold xm_as1; split
  · rfl
  · rw [up_o (by omega), up_o (by omega), up_o (by omega), up_o (by omega), up_o (by omega)]
theorem as_b {ns h wr a : Nat} {t : Int32} {S : xa_AH} (ha : a = 176) : xm_as ns h wr t S a = S a := lp_a (fun i U => as1_b ha) _ _
theorem cl1_b {h wr s a : Nat} {S : xa_AH} (ha : a = 176) : xm_cl1 h wr s S a = S a := by
  unfold xm_cl1; split
  · rfl
  · rw [up_o (by omega), up_o (by omega), up_o (by omega)]
theorem tey_a {ns h wr a : Nat} {t : Int32} {S : xa_AH} (h1 : a ≠ 153) (h2 : a < 187) : xm_te ns h wr t S a = S a := lp_a (fun i U => te1_a h1 h2) _ _
theorem wv_wall {nh ns h : Nat} {t : Int32} {S : xa_AH} (g : xm_wv nh ns (2 * h) S) (hh : h < 12) : xm_wv nh ns (2 * h + 2) (xm_wall ns h t S) := by
  obtain ⟨g1, w, e1, e2, e3⟩ := id g
  have ec : xc (S 130 47) = w := by rw [e1]; exact xc_n (by omega)
  unfold xm_wall
  rw [ec]
  have gc : xm_wv nh ns (2 * h) (xm_clr w S) := wv_of g (wi_clr g1) (by rw [clr_a (by decide)]) (clr_a (by decide))
  have ew : (xm_clr w S) 130 47 = nI w := by rw [clr_a (by decide)]; exact e1
  split
  · have gb : xm_wv nh ns (2 * h) (xm_by ns h w (xm_clr w S)) := wv_of gc (wi_by gc.1) (by rw [byy_a (by decide) (by decide) (by decide)]) (byy_a (by decide) (by decide) (by decide))
    have gw := wv_wr (net := S 131 h) gb (by rw [byy_a (by decide) (by decide) (by decide)]; exact ew) (by omega) (by omega) hh
    exact wv_mono (wv_of gw (wi_gone gw.1) (by rw [gone_a (by decide)]) (gone_b (by decide) (by decide) (by decide) (by decide) (by decide) (by decide) (by decide) (by decide))) (by omega)
  · split
    · split
      · exact wv_mono gc (by omega)
      · have g2 := wv_tk (sd := 0) (net := S 131 h) gc ew (by omega) (by omega) hh
        generalize xm_tk h 0 w (S 131 h) (xm_clr w S) = V at g2 ⊢
        obtain ⟨k1, w2, f1, f2, f3⟩ := id g2
        have ec2 : xc (V 130 47) = w2 := by rw [f1]; exact xc_n (by omega)
        rw [ec2]
        exact wv_tk (wv_of g2 (wi_clr k1) (by rw [clr_a (by decide)]) (clr_a (by decide))) (by rw [clr_a (by decide)]; exact f1) (by omega) (by omega) hh
    · have ga : xm_wv nh ns (2 * h) (xm_as ns h w t (xm_clr w S)) := wv_of gc (wi_as gc.1) (by rw [asy_a (by decide)]) (as_b rfl)
      have gl : xm_wv nh ns (2 * h) (xa_lp (xm_cl1 h w) ns (xm_as ns h w t (xm_clr w S))) := wv_of ga (wi_cl ga.1) (by rw [lp_a (fun i U => cl1_a (by decide))]) (lp_a (fun i U => cl1_b rfl) _ _)
      have gb : xm_wv nh ns (2 * h) (xm_by ns h w (xa_lp (xm_cl1 h w) ns (xm_as ns h w t (xm_clr w S)))) := wv_of gl (wi_by gl.1) (by rw [byy_a (by decide) (by decide) (by decide)]) (byy_a (by decide) (by decide) (by decide))
      have gt : xm_wv nh ns (2 * h) (xm_te ns h w t (xm_by ns h w (xa_lp (xm_cl1 h w) ns (xm_as ns h w t (xm_clr w S))))) := wv_of gb (wi_te gb.1) (by rw [tey_a (by decide) (by decide)]) (tey_a (by decide) (by decide))
      have gn := wv_of gt (wi_an (h := h) (n := ns) (t := t) gt.1) (by rw [lp_a (fun i U => an1_a (by decide))]) (lp_a (fun i U => an1_a (by decide)) _ _)
      exact wv_mono (wv_wr gn (by rw [lp_a (fun i U => an1_a (by decide)), tey_a (by decide) (by decide), byy_a (by decide) (by decide) (by decide), lp_a (fun i U => cl1_a (by decide)), asy_a (by decide)]; exact ew) (by omega) (by omega) hh) (by omega)
theorem wv_wa1 {nh ns h : Nat} {t : Int32} {S : xa_AH} (g : xm_wv nh ns (2 * h) S) (hh : h < 12) : xm_wv nh ns (2 * (h + 1)) (xm_wa1 ns t h S) := by
  unfold xm_wa1; split
  · exact wv_wall g hh
  · exact wv_mono g (by omega)
