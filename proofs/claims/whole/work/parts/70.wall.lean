/-- all that host h writes in tick t -/
def xm_wall (ns h : Nat) (t : Int32) (S : xa_AH) : xa_AH :=
  if ¬ S 137 h = 0 then xm_gone h (xm_wr (xm_by ns h (xc (S 130 47)) (xm_clr (xc (S 130 47)) S)) (xc (S 130 47)) h (S 131 h))
  else if ¬ S 139 h = 0 then (if S 131 h = S 132 h then xm_clr (xc (S 130 47)) S else xm_tk h 1 (xc (xm_tk h 0 (xc (S 130 47)) (S 131 h) (xm_clr (xc (S 130 47)) S) 130 47)) (S 132 h) (xm_clr (xc (xm_tk h 0 (xc (S 130 47)) (S 131 h) (xm_clr (xc (S 130 47)) S) 130 47)) (xm_tk h 0 (xc (S 130 47)) (S 131 h) (xm_clr (xc (S 130 47)) S))))
  else xm_wr (xa_lp (xm_an1 h t) ns (xm_te ns h (xc (S 130 47)) t (xm_by ns h (xc (S 130 47)) (xa_lp (xm_cl1 h (xc (S 130 47))) ns (xm_as ns h (xc (S 130 47)) t (xm_clr (xc (S 130 47)) S)))))) (xc (S 130 47)) h (S 131 h)
def xm_wa1 (ns : Nat) (t : Int32) (h : Nat) (S : xa_AH) : xa_AH := if S 136 h = 2 then xm_wall ns h t S else S
/-- host h's letters are emptied -/
theorem RX_cls {nh ns h : Nat} {pw : Nat → Nat} {L : List Nat} {T : xa_AH} {R : xa_AR} {S : xa_AH} (hX : RX nh ns h pw L T R S) {S2 : xa_AH} (hh : h < nh) (hS : S2 = S ∨ S2 = xm_clr (pw h) S) : RX nh ns h pw L (lx_cls S T R h) R S2 := by
  have n12 := hX.n12
  have b0 := hX.pwb h (Nat.le_refl _)
  have r1 : RX nh ns h pw L (lx_clear T (lt R h)) R S2 := by
    rcases hS with e | e
    · rw [e]; exact RX_clear hX hh
    · rw [e]; exact (WX_clear hX hh 0).1
  unfold lx_cls
  split
  · exact r1
  · next g =>
    have g2 : ¬ S2 139 h = 0 := by
      rcases hS with e | e
      · rw [e]; exact g
      · rw [e, clr_a (by decide)]; exact g
    exact RX_cur2 r1 (r0 := pw h) hh g2 ⟨Nat.le_refl _, by omega⟩ (fun a q => lx_clear_o (by omega)) (fun a _ => rfl) (fun r _ _ => rowsame_rf)
theorem cls_0 {nh ns h : Nat} {pw : Nat → Nat} {L : List Nat} {T : xa_AH} {R : xa_AR} {S : xa_AH} (hX : RX nh ns h pw L T R S) (hh : h < nh) : (lx_cls S T R h (lt R h) 1 = 0 ∧ lx_cls S T R h (lt R h) 5 = 0 ∧ lx_cls S T R h (lt R h) 8 = 0 ∧ lx_cls S T R h (lt R h) 10 = 0) ∧ (¬ S 139 h = 0 → lx_cls S T R h (l2 R h) 1 = 0 ∧ lx_cls S T R h (l2 R h) 5 = 0 ∧ lx_cls S T R h (l2 R h) 8 = 0 ∧ lx_cls S T R h (l2 R h) 10 = 0) := by
  unfold lx_cls
  split
  · next g => exact ⟨lx_clear_s, fun c => absurd g c⟩
  · next g =>
    have f := (four hX hh g).1
    refine ⟨?_, fun _ => lx_clear_s⟩
    rw [lx_clear_o f]; exact lx_clear_s
theorem lne_0 {T : xa_AH} {q : Nat} (h : T q 1 = 0 ∧ T q 5 = 0 ∧ T q 8 = 0 ∧ T q 10 = 0) : lne T q = false := by
  unfold lne lx_all; rw [h.1, h.2.1, h.2.2.1, h.2.2.2]; rfl
theorem WX_cls {nh ns h : Nat} {pw : Nat → Nat} {L : List Nat} {T : xa_AH} {R : xa_AR} {S : xa_AH} (hX : RX nh ns h pw L T R S) (hh : h < nh) (nb : Int32) : WX nh ns h pw L (lx_cls S T R h) R (xm_clr (pw h) S) nb :=
  ⟨RX_cls hX hh (Or.inr rfl), by
    have z := (cls_0 hX hh).1
    exact lr_empty z.1 z.2.1 z.2.2.1 z.2.2.2 (clr_rowc _ _)⟩
/-- a host that writes one letter at most -/
theorem RX_done {nh ns h : Nat} {pw : Nat → Nat} {L : List Nat} {T : xa_AH} {R : xa_AR} {S : xa_AH} {nb net : Int32} (hW : WX nh ns h pw L T R S nb) (hh : h < nh) (h9 : ¬ S 139 h = 0 → lne T (l2 R h) = false) (nl : S 137 h = 0) (h47 : S 130 47 = nI (pw h)) (hnb : nb = 1 <<< (net &&& 31)) (hnet : vp_in net 4) : ∃ pw2, RX nh ns (h + 1) pw2 L (px T h (lt R h) net) R (xm_wr S (pw h) h net) ∧ xm_wr S (pw h) h net 130 47 = nI (pw2 (h + 1)) := by
  have hX := hW.1
  have n12 := hX.n12
  have b := hX.pwb h (Nat.le_refl _)
  have lb := lne_bare hW.2
  have lc := (lat_lc (lat_lt hX hh)).1
  have q9 : ¬ S 139 h = 0 → lne (px T h (lt R h) net) (l2 R h) = false := fun c => by
    rw [lne_q (px_a lc (lat_lc (lat_b hX hh c).1).1 (Ne.symm (four hX hh c).1))]; exact h9 c
  by_cases g : lne T (lt R h) = true
  · obtain ⟨r1, r2⟩ := RX_post hX hh (Or.inl rfl) ⟨Nat.le_refl _, by omega⟩ hW.2 g hnb hnet
    have hb : xm_bare S (pw h) = false := by rw [g] at lb; simpa using lb.symm
    have g2 : lne (px T h (lt R h) net) (lt R h) = true := by rw [px_lne lc]; exact g
    have e9 : xm_wr S (pw h) h net 139 = S 139 := wr_a (by decide) (by decide) (by decide) (by decide)
    have nx := RX_next r1 hh (by rw [wr_a (by decide) (by decide) (by decide) (by decide)]; exact nl) (fun _ => r2) (fun c d => by rw [e9] at c; rw [q9 c] at d; cases d)
    refine ⟨_, nx, ?_⟩
    rw [wr_47 hb, h47, nI_1]
    simp only [show ¬ h + 1 ≤ h by omega, if_false, g2, if_true]
    rw [if_neg (fun c => by rw [e9] at c; rw [q9 c.1] at c; exact absurd c.2 (by decide))]
  · have g' : lne T (lt R h) = false := by simpa using g
    have hb : xm_bare S (pw h) = true := by rw [g'] at lb; simpa using lb.symm
    rw [px_no g', wr_bare hb]
    have nx := RX_next hX hh nl (fun c => absurd c g) (fun c d => by rw [h9 c] at d; cases d)
    refine ⟨_, nx, ?_⟩
    rw [h47]
    simp only [show ¬ h + 1 ≤ h by omega, if_false, g']
    rw [if_neg (show ¬ (¬ S 139 h = 0 ∧ lne T (l2 R h) = true) from fun c => by rw [h9 c.1] at c; exact absurd c.2 (by decide))]; simp
/-- a host that writes nothing -/
theorem RX_silent {nh ns h : Nat} {pw : Nat → Nat} {L : List Nat} {T : xa_AH} {R : xa_AR} {S : xa_AH} (hX : RX nh ns h pw L T R S) (hh : h < nh) (nl : S 137 h = 0) (h47 : S 130 47 = nI (pw h)) (e1 : lne T (lt R h) = false) (e2 : ¬ S 139 h = 0 → lne T (l2 R h) = false) : ∃ pw2, RX nh ns (h + 1) pw2 L T R S ∧ S 130 47 = nI (pw2 (h + 1)) := by
  have nx := RX_next hX hh nl (fun c => by rw [e1] at c; cases c) (fun c d => by rw [e2 c] at d; cases d)
  refine ⟨_, nx, ?_⟩
  rw [h47]
  simp only [show ¬ h + 1 ≤ h by omega, if_false, e1]
  rw [if_neg (show ¬ (¬ S 139 h = 0 ∧ lne T (l2 R h) = true) from fun c => by rw [e2 c.1] at c; exact absurd c.2 (by decide))]; simp
/-! going commutes with the writing of the letter -/
theorem lp_up2 {f : Nat → xa_AH → xa_AH} {a j : Nat} {v : Int32} (h : ∀ i S, f i (xa_up S a j v) = xa_up (f i S) a j v) (n : Nat) (S : xa_AH) : xa_lp f n (xa_up S a j v) = xa_up (xa_lp f n S) a j v := lp_comm (f := f) (g := fun S => xa_up S a j v) h n S
theorem gone_up {h a j : Nat} {v : Int32} {S : xa_AH} (ha : a = 130 ∨ a = 142 ∨ a = 176 ∨ a = 177) : xm_gone h (xa_up S a j v) = xa_up (xm_gone h S) a j v := by
  unfold xm_gone xm_gn2
  rw [up_comm (a := a) (b := 136) (by omega), up_comm (a := a) (b := 137) (by omega), up_comm (a := a) (b := 138) (by omega), up_comm (a := a) (b := 141) (by omega)]
  unfold xm_emp
  rw [lp_up2 (f := xm_emp1 h) (fun i S => by unfold xm_emp1; rw [up_comm (a := a) (b := 158) (by omega), up_comm (a := a) (b := 163) (by omega)]), lp_up2 (f := xm_gn1 h) (fun i S => by unfold xm_gn1; rw [up_comm (a := a) (b := 164) (by omega)]), clr_up (by omega), clr_up (by omega)]
theorem gone_a {h a : Nat} {S : xa_AH} (ha : a = 130 ∨ a = 131 ∨ a = 139 ∨ a = 142) : xm_gone h S a = S a := by
  unfold xm_gone xm_gn2
  rw [clr_a (by omega), clr_a (by omega)]
  have e1 : ∀ V : xa_AH, xa_lp (xm_gn1 h) 16 V a = V a := fun V => by funext y; rw [gn1_e, if_neg (by omega)]
  have e2 : ∀ V : xa_AH, xm_emp h V a = V a := fun V => by funext y; rw [emp_e, if_neg (by omega), if_neg (by omega)]
  rw [e1, e2, up_o (by omega), up_o (by omega), up_o (by omega), up_o (by omega)]
theorem gone_137 {h : Nat} {S : xa_AH} : xm_gone h S 137 h = 0 := by
  unfold xm_gone xm_gn2
  rw [clr_a (by decide), clr_a (by decide), gn1_e, if_neg (by omega), emp_e, if_neg (by omega), if_neg (by omega)]
  simp [xa_up]
theorem gone_row {h r : Nat} {S : xa_AH} (hr : r < 24) : rowsame S (xm_gone h S) r := by
  have e1 : ∀ V : xa_AH, ∀ a, 179 ≤ a → xa_lp (xm_gn1 h) 16 V a = V a := fun V a ha => by funext y; rw [gn1_e, if_neg (by omega)]
  have e2 : ∀ V : xa_AH, ∀ a, 179 ≤ a → xm_emp h V a = V a := fun V a ha => by funext y; rw [emp_e, if_neg (by omega), if_neg (by omega)]
  unfold xm_gone xm_gn2
  refine rowsame_tr (rowsame_tr ?_ (clr_same (by omega))) (clr_same (by omega))
  refine ⟨fun a h1 _ k _ => ?_, fun a h1 s _ => ?_⟩
  · rw [e1 _ a h1, e2 _ a h1, up_o (by omega), up_o (by omega), up_o (by omega), up_o (by omega)]
  · rw [e1 _ a (by omega), e2 _ a (by omega), up_o (by omega), up_o (by omega), up_o (by omega), up_o (by omega)]
theorem gone_wr {S : xa_AH} {h wr : Nat} {net : Int32} (hw : wr < 24) : xm_wr (xm_gone h S) wr h net = xm_gone h (xm_wr S wr h net) := by
  unfold xm_wr
  rw [bare_row (gone_row hw), gone_a (a := 130) (by omega), gone_a (a := 142) (by omega)]
  split
  · rfl
  · rw [gone_up (by omega), gone_up (by omega), gone_up (by omega), gone_up (by omega), gone_up (by omega), gone_up (by omega)]
