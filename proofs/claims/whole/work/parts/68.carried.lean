theorem tk1_up {wr fr a j : Nat} {b v : Int32} (ha : a < 179) (k : Nat) (S : xa_AH) : xm_tk1 wr fr b k (xa_up S a j v) = xa_up (xm_tk1 wr fr b k S) a j v := by
  have e : ∀ c, 179 ≤ c → xa_up S a j v c = S c := fun c hc => up_o (by omega)
  unfold xm_tk1
  rw [e 179 (by decide), e 180 (by decide), e 181 (by decide), e 182 (by decide), up_comm (a := a) (b := 179) (by omega), up_comm (a := a) (b := 180) (by omega), up_comm (a := a) (b := 181) (by omega), up_comm (a := a) (b := 182) (by omega)]
theorem tk2_up {wr fr a j : Nat} {b v : Int32} (ha : a < 179) (k : Nat) (S : xa_AH) : xm_tk2 wr fr b k (xa_up S a j v) = xa_up (xm_tk2 wr fr b k S) a j v := by
  have e : ∀ c, 179 ≤ c → xa_up S a j v c = S c := fun c hc => up_o (by omega)
  unfold xm_tk2
  rw [e 183 (by decide), e 184 (by decide), e 185 (by decide), e 186 (by decide), e 187 (by decide), e 188 (by decide), e 189 (by decide), e 190 (by decide), up_comm (a := a) (b := 183) (by omega), up_comm (a := a) (b := 184) (by omega), up_comm (a := a) (b := 185) (by omega), up_comm (a := a) (b := 186) (by omega), up_comm (a := a) (b := 187) (by omega), up_comm (a := a) (b := 188) (by omega), up_comm (a := a) (b := 189) (by omega), up_comm (a := a) (b := 190) (by omega)]
theorem clr_up {r a j : Nat} {v : Int32} (ha : a < 179) (S : xa_AH) : xm_clr r (xa_up S a j v) = xa_up (xm_clr r S) a j v := by
  funext x y
  rw [clr_e, up_S, up_S, clr_e]
  by_cases c : x = a ∧ y = j
  · rw [if_pos c, if_pos c, if_neg (by omega)]
  · rw [if_neg c, if_neg c]
theorem tkC_up {wr fr a j : Nat} {b v : Int32} (ha : a < 179) (S : xa_AH) : xm_tkC wr fr b (xa_up S a j v) = xa_up (xm_tkC wr fr b S) a j v := by
  unfold xm_tkC
  rw [lp_comm (f := xm_tk1 wr fr b) (g := fun S => xa_up S a j v) (fun i S => tk1_up ha i S), lp_comm (f := xm_tk2 wr fr b) (g := fun S => xa_up S a j v) (fun i S => tk2_up ha i S), clr_up ha]
theorem bare_row {S S2 : xa_AH} {r : Nat} (h : rowsame S S2 r) : xm_bare S2 r = xm_bare S r := by
  unfold xm_bare
  rw [xa_any_cong (p := xm_b1 S2 r) (q := xm_b1 S r) (n := 16) (fun i hi => by unfold xm_b1; rw [h.1 179 (by decide) (by decide) i hi]), xa_any_cong (p := xm_b2 S2 r) (q := xm_b2 S r) (n := 32) (fun i hi => by unfold xm_b2; rw [h.2 183 (by decide) i hi, h.2 185 (by decide) i hi, h.2 187 (by decide) i hi])]
theorem wr_row {S : xa_AH} {wr h r : Nat} {net : Int32} : rowsame S (xm_wr S wr h net) r := by
  unfold xm_wr; split
  · exact rowsame_rf
  · exact rowsame_up (rowsame_up (rowsame_up (rowsame_up (rowsame_up (rowsame_up rowsame_rf (by omega)) (by omega)) (by omega)) (by omega)) (by omega)) (by omega)
/-- the second letter after the first was written: the reference's order is ours -/
theorem tk_wr {S : xa_AH} {wr wr2 fr h : Nat} {net b : Int32} (h1 : wr ≠ wr2) (h2 : wr ≠ fr) (h3 : wr2 ≠ fr) : xm_tkC wr2 fr b (xm_clr wr2 (xm_wr S wr h net)) = xm_wr (xm_tkC wr2 fr b (xm_clr wr2 S)) wr h net := by
  have tc := tkC_all (S := xm_clr wr2 S) (b := b) h3
  have e1 : rowsame S (xm_tkC wr2 fr b (xm_clr wr2 S)) wr := rowsame_tr (clr_same h1) (tc.2.1 wr h1 h2)
  have e2 : ∀ a, a < 179 → xm_tkC wr2 fr b (xm_clr wr2 S) a = S a := fun a ha => by rw [tc.1 a ha, clr_a ha]
  by_cases g : xm_bare S wr = true
  · rw [wr_bare g, wr_bare (by rw [bare_row e1]; exact g)]
  · have g2 : ¬ xm_bare (xm_tkC wr2 fr b (xm_clr wr2 S)) wr = true := by rw [bare_row e1]; exact g
    unfold xm_wr
    rw [if_neg g, if_neg g2, e2 130 (by decide), e2 142 (by decide)]
    rw [clr_up (by decide), clr_up (by decide), clr_up (by decide), clr_up (by decide), clr_up (by decide), clr_up (by decide)]
    rw [tkC_up (by decide), tkC_up (by decide), tkC_up (by decide), tkC_up (by decide), tkC_up (by decide), tkC_up (by decide)]
theorem px_a {T : xa_AH} {h q a : Nat} {net : Int32} (hl : lcell q) (ha : lcell a) (n : a ≠ q) : px T h q net a = T a := by
  by_cases g : lne T q = true
  · rw [(px_q hl g).2 a ha, up_o n]
  · rw [px_no (by simpa using g)]
theorem px_lne {T : xa_AH} {h q : Nat} {net : Int32} (hl : lcell q) : lne (px T h q net) q = lne T q := by
  by_cases g : lne T q = true
  · have e0 := (px_q (h := h) (net := net) hl g).2 q hl
    have ea : lx_all (px T h q net) q = lx_all T q := by unfold lx_all; rw [e0, up_k (by decide), up_k (by decide), up_k (by decide), up_k (by decide)]
    unfold lne; rw [ea]
  · rw [px_no (by simpa using g)]
/-- a bridge writes what it carries -/
theorem RX_carried {nh ns h : Nat} {pw : Nat → Nat} {L : List Nat} {T : xa_AH} {R : xa_AR} {S : xa_AH} (hX : RX nh ns h pw L T R S) (hh : h < nh) (hb : ¬ S 139 h = 0) (ha : ¬ S 136 h = 0) (nl : S 137 h = 0) (h47 : S 130 47 = nI (pw h)) (e1 : T (lt R h) 1 = 0 ∧ T (lt R h) 5 = 0 ∧ T (lt R h) 8 = 0 ∧ T (lt R h) 10 = 0) (e2 : T (l2 R h) 1 = 0 ∧ T (l2 R h) 5 = 0 ∧ T (l2 R h) 8 = 0 ∧ T (l2 R h) 10 = 0) {wr2 : Nat} (hw2 : wr2 = pw h + (if lne T (wh R h) = true then 1 else 0)) :
    ∃ pw2, RX nh ns (h + 1) pw2 L (px (px T h (wh R h) (S 131 h)) h (w2 R h) (S 132 h)) (swR R h) (xm_tk h 1 wr2 (S 132 h) (xm_clr wr2 (xm_tk h 0 (pw h) (S 131 h) (xm_clr (pw h) S)))) ∧ xm_tk h 0 (pw h) (S 131 h) (xm_clr (pw h) S) 130 47 = nI wr2 ∧ xm_tk h 1 wr2 (S 132 h) (xm_clr wr2 (xm_tk h 0 (pw h) (S 131 h) (xm_clr (pw h) S))) 130 47 = nI (pw2 (h + 1)) := by
  have n12 := hX.n12
  have b0 := hX.pwb h (Nat.le_refl _)
  have hw23 : pw h ≤ wr2 ∧ wr2 < 24 := by rw [hw2]; split <;> omega
  have lat4 := lat_b hX hh hb
  have f4 := four hX hh hb
  have W := hX.w_w hh hb ha
  have nb1 := hX.ih_net hh
  have nb2 := hX.ih_s1 hh hb
  -- the contents alone
  have t1 := tkC_all (S := xm_clr (pw h) S) (wr := pw h) (fr := 24 + 2 * h) (b := 1 <<< (S 131 h &&& 31)) (by omega)
  obtain ⟨V, hV⟩ : ∃ V, V = xm_tkC (pw h) (24 + 2 * h) (1 <<< (S 131 h &&& 31)) (xm_clr (pw h) S) := ⟨_, rfl⟩
  rw [← hV] at t1
  have t2 := tkC_all (S := xm_clr wr2 V) (wr := wr2) (fr := 24 + 2 * h + 1) (b := 1 <<< (S 132 h &&& 31)) (by omega)
  obtain ⟨C, hC⟩ : ∃ C, C = xm_tkC wr2 (24 + 2 * h + 1) (1 <<< (S 132 h &&& 31)) (xm_clr wr2 V) := ⟨_, rfl⟩
  rw [← hC] at t2
  have hCa : ∀ a, a < 179 → C a = S a := fun a h1 => by rw [t2.1 a h1, clr_a h1, t1.1 a h1, clr_a h1]
  have rows : ∀ r, r ≠ pw h → r ≠ wr2 → r ≠ 24 + 2 * h → r ≠ 24 + 2 * h + 1 → rowsame S C r := fun r q1 q2 q3 q4 => rowsame_tr (rowsame_tr (rowsame_tr (clr_same q1) (t1.2.1 r q1 q3)) (clr_same q2)) (t2.2.1 r q2 q4)
  have l1 : lr T (wh R h) V (pw h) (1 <<< (S 131 h &&& 31)) := by
    refine lr_copy (lr_row (clr_same (by omega)) W.1) t1.2.2.2.1 t1.2.2.2.2
  have VS : rowsame S V (24 + 2 * h + 1) := rowsame_tr (clr_same (by omega)) (t1.2.1 _ (by omega) (by omega))
  have l2' : lr T (w2 R h) C wr2 (1 <<< (S 132 h &&& 31)) := lr_copy (lr_row (rowsame_tr VS (clr_same (by omega))) W.2) t2.2.2.2.1 t2.2.2.2.2
  have rc1 : rowc C (24 + 2 * h) := rowc_row (rowsame_tr (clr_same (by omega)) (t2.2.1 _ (by omega) (by omega))) t1.2.2.1
  have r0 : RX nh ns h pw L T (swR R h) C := RX_swap hX hh hb e1 e2 hCa (fun r q1 q2 q3 q4 => rows r (by omega) (by omega) q2 q3) ⟨rc1, t2.2.2.1⟩
  have sl := sw_lt (R := R) (h := h)
  have hb' : ¬ C 139 h = 0 := by rw [hCa 139 (by decide)]; exact hb
  have bV := lne_bare l1
  have lc1 := (lat_lc lat4.2.1).1
  have lc2 := (lat_lc lat4.2.2).1
  have cell2 : ∀ d, d < 16 → px T h (wh R h) (S 131 h) (w2 R h + d) = T (w2 R h + d) := fun d hd => px_a lc1 (lc_q (lat_lc lat4.2.2) hd) (by have := lat_apart lat4.2.1 lat4.2.2 f4.2.2.2.2.2; omega)
  have eT : xm_tk h 1 wr2 (S 132 h) (xm_clr wr2 (xm_tk h 0 (pw h) (S 131 h) (xm_clr (pw h) S))) = xm_wr (xm_tkC wr2 (24 + 2 * h + 1) (1 <<< (S 132 h &&& 31)) (xm_clr wr2 (xm_wr V (pw h) h (S 131 h)))) wr2 h (S 132 h) := by rw [hV]; rfl
  have eT0 : xm_tk h 0 (pw h) (S 131 h) (xm_clr (pw h) S) = xm_wr V (pw h) h (S 131 h) := by rw [hV]; rfl
  -- the first letter
  have step1 : ∃ P1, xm_tkC wr2 (24 + 2 * h + 1) (1 <<< (S 132 h &&& 31)) (xm_clr wr2 (xm_wr V (pw h) h (S 131 h))) = P1 ∧ RX nh ns h pw L (px T h (wh R h) (S 131 h)) (swR R h) P1 ∧ rowsame C P1 wr2 ∧ (∀ a, a ≠ 130 → a ≠ 142 → a < 176 → P1 a = C a) ∧ P1 130 47 = nI wr2 ∧ xm_wr V (pw h) h (S 131 h) 130 47 = nI wr2 ∧ (lne T (wh R h) = true → lrow (px T h (wh R h) (S 131 h)) P1 h (wh R h) (pw h)) := by
    by_cases g : lne T (wh R h) = true
    · have hw : wr2 = pw h + 1 := by rw [hw2, if_pos g]
      have bf : xm_bare V (pw h) = false := by rw [g] at bV; simpa using bV.symm
      have rC : rowsame V C (pw h) := rowsame_tr (clr_same (by omega)) (t2.2.1 _ (by omega) (by omega))
      have P := RX_post r0 (q0 := wh R h) (r0 := pw h) (net := S 131 h) hh (Or.inl sl.1.symm) ⟨Nat.le_refl _, by omega⟩ (lr_row rC l1) g rfl nb1
      refine ⟨_, tk_wr (by omega) (by omega) (by omega), ?_⟩
      rw [← hC]
      refine ⟨P.1, wr_row, fun a q1 q2 q3 => wr_a q1 q2 (by omega) (by omega), ?_, ?_, fun _ => P.2⟩
      · rw [wr_47 (by rw [bare_row rC]; exact bf), hCa 130 (by decide), h47, hw, nI_1]
      · rw [wr_47 bf, t1.1 130 (by decide), clr_a (by decide), h47, hw, nI_1]
    · have hw : wr2 = pw h := by rw [hw2, if_neg g]; rfl
      have g' : lne T (wh R h) = false := by simpa using g
      have bt' : xm_bare V (pw h) = true := by rw [g'] at bV; simpa using bV.symm
      rw [px_no g', wr_bare bt', ← hC]
      exact ⟨C, rfl, r0, rowsame_rf, fun _ _ _ _ => rfl, by rw [hCa 130 (by decide), h47, hw], by rw [t1.1 130 (by decide), clr_a (by decide), h47, hw], fun c => absurd c g⟩
  obtain ⟨P1, p1, p2, p3, p4, p5, p6, p7⟩ := step1
  rw [eT, eT0, p1]
  have lrP : lr (px T h (wh R h) (S 131 h)) (w2 R h) P1 wr2 (1 <<< (S 132 h &&& 31)) := lr_cell cell2 (lr_row p3 l2')
  have n2 : lne (px T h (wh R h) (S 131 h)) (w2 R h) = lne T (w2 R h) := lne_q (cell2 0 (by decide))
  have h9P : P1 139 = S 139 := by rw [p4 139 (by decide) (by decide) (by decide), hCa 139 (by decide)]
  have h7P : P1 137 = S 137 := by rw [p4 137 (by decide) (by decide) (by decide), hCa 137 (by decide)]
  have lneW : lne (px T h (wh R h) (S 131 h)) (wh R h) = lne T (wh R h) := px_lne lc1
  by_cases g : lne (px T h (wh R h) (S 131 h)) (w2 R h) = true
  · have Q := RX_post p2 (q0 := w2 R h) (r0 := wr2) (net := S 132 h) hh (Or.inr ⟨sl.2.1.symm, by rw [h9P]; exact hb⟩) hw23 lrP g rfl nb2
    have bf : xm_bare P1 wr2 = false := by have := lne_bare lrP; rw [g] at this; simpa using this.symm
    have cw : ∀ d, d < 16 → px (px T h (wh R h) (S 131 h)) h (w2 R h) (S 132 h) (wh R h + d) = px T h (wh R h) (S 131 h) (wh R h + d) := fun d hd => px_a lc2 (lc_q (lat_lc lat4.2.1) hd) (by have := lat_apart lat4.2.1 lat4.2.2 f4.2.2.2.2.2; omega)
    have lw : lne (px (px T h (wh R h) (S 131 h)) h (w2 R h) (S 132 h)) (wh R h) = lne T (wh R h) := (lne_q (q := wh R h) (cw 0 (by decide))).trans lneW
    have lw2 : lne (px (px T h (wh R h) (S 131 h)) h (w2 R h) (S 132 h)) (w2 R h) = true := by rw [px_lne lc2]; exact g
    have nx := RX_next Q.1 hh (by rw [wr_a (by decide) (by decide) (by decide) (by decide), h7P]; exact nl) (fun c => by
        rw [sl.1] at c ⊢
        rw [lw] at c
        have z := p7 c
        have hw : wr2 = pw h + 1 := by rw [hw2, if_pos c]
        have e0 := cw 0 (by decide)
        have w176 : xm_wr P1 wr2 h (S 132 h) 176 (pw h) = P1 176 (pw h) := by
          unfold xm_wr; rw [if_neg (by rw [bf]; decide)]; simp [xa_up, show ¬ pw h = wr2 by omega]
        have w177 : xm_wr P1 wr2 h (S 132 h) 177 (pw h) = P1 177 (pw h) := by
          unfold xm_wr; rw [if_neg (by rw [bf]; decide)]; simp [xa_up, show ¬ pw h = wr2 by omega]
        refine ⟨by rw [w176]; exact z.1, by rw [w177, show px (px T h (wh R h) (S 131 h)) h (w2 R h) (S 132 h) (wh R h) = px T h (wh R h) (S 131 h) (wh R h) from e0]; exact z.2.1, by rw [show px (px T h (wh R h) (S 131 h)) h (w2 R h) (S 132 h) (wh R h) = px T h (wh R h) (S 131 h) (wh R h) from e0]; exact z.2.2.1, ?_⟩
        rw [show px (px T h (wh R h) (S 131 h)) h (w2 R h) (S 132 h) (wh R h) = px T h (wh R h) (S 131 h) (wh R h) from e0]
        exact lr_cell cw (lr_row wr_row z.2.2.2)) (fun _ _ => by
        rw [sl.1, sl.2.1, lw]
        rw [← hw2]; exact Q.2)
    refine ⟨_, nx, p6, ?_⟩
    rw [wr_47 bf, p5, nI_1]
    simp only [show ¬ h + 1 ≤ h by omega, if_false, sl.1, sl.2.1, lw]
    rw [← hw2, if_pos ⟨by rw [wr_a (by decide) (by decide) (by decide) (by decide), h9P]; exact hb, lw2⟩]
  · have g' : lne (px T h (wh R h) (S 131 h)) (w2 R h) = false := by simpa using g
    have bt' : xm_bare P1 wr2 = true := by have := lne_bare lrP; rw [g'] at this; simpa using this.symm
    rw [px_no g', wr_bare bt']
    have nx := RX_next p2 hh (by rw [h7P]; exact nl) (fun c => by rw [sl.1] at c ⊢; rw [lneW] at c; exact p7 c) (fun _ c => by rw [sl.2.1] at c; exact absurd c g)
    refine ⟨_, nx, p6, ?_⟩
    rw [p5]
    simp only [show ¬ h + 1 ≤ h by omega, if_false, sl.1, sl.2.1, lneW]
    rw [← hw2, if_neg (fun c => g c.2)]; rfl
