/-- the letters of a bridge change places -/
def swR (R : xa_AR) (h : Nat) : xa_AR := xa_upr (xa_upr (xa_upr (xa_upr R (ci h 0) 15 (some (wh R h))) (ci h 80) 3 (some (lt R h))) (ci h 80) 2 (some (w2 R h))) (ci h 80) 4 (some (l2 R h))
theorem sw_o {R : xa_AR} {h a y : Nat} (n : (a ≠ ci h 0 ∨ y ≠ 15) ∧ (a ≠ ci h 80 ∨ (y ≠ 2 ∧ y ≠ 3 ∧ y ≠ 4))) : swR R h a y = R a y := by
  unfold swR; rw [upr_o (by omega), upr_o (by omega), upr_o (by omega), upr_o (by omega)]
theorem sw_15 {R : xa_AR} {h : Nat} : swR R h (ci h 0) 15 = some (wh R h) := by
  unfold swR; rw [upr_o (Or.inl (by decide)), upr_o (Or.inl (by decide)), upr_o (Or.inl (by decide)), upr_s]
theorem sw_2 {R : xa_AR} {h : Nat} : swR R h (ci h 80) 2 = some (w2 R h) := by
  unfold swR; rw [upr_o (Or.inl (by decide)), upr_s]
theorem sw_3 {R : xa_AR} {h : Nat} : swR R h (ci h 80) 3 = some (lt R h) := by
  unfold swR; rw [upr_o (Or.inl (by decide)), upr_o (Or.inl (by decide)), upr_s]
theorem sw_4 {R : xa_AR} {h : Nat} : swR R h (ci h 80) 4 = some (l2 R h) := by
  unfold swR; rw [upr_s]
theorem sw_lt {R : xa_AR} {h : Nat} : lt (swR R h) h = wh R h ∧ l2 (swR R h) h = w2 R h ∧ wh (swR R h) h = lt R h ∧ w2 (swR R h) h = l2 R h := by
  refine ⟨?_, ?_, ?_, ?_⟩
  · show (swR R h (ci h 0) 15).getD 0 = _
    rw [sw_15]; rfl
  · show (swR R h (ci h 80) 2).getD 0 = _
    rw [sw_2]; rfl
  · show (swR R h (ci h 80) 3).getD 0 = _
    rw [sw_3]; rfl
  · show (swR R h (ci h 80) 4).getD 0 = _
    rw [sw_4]; rfl
theorem sw_ne {R : xa_AR} {h x : Nat} (n : x ≠ h) : lt (swR R h) x = lt R x ∧ l2 (swR R h) x = l2 R x ∧ wh (swR R h) x = wh R x ∧ w2 (swR R h) x = w2 R x := by
  have c0 : ci x 0 ≠ ci h 0 := fun e => n (ci_i.mp e)
  have c8 : ci x 80 ≠ ci h 80 := fun e => n (ci_i.mp e)
  have d1 : ci x 0 ≠ ci h 80 := ci_ne (by decide) (by decide) (by decide)
  have d2 : ci x 80 ≠ ci h 0 := ci_ne (by decide) (by decide) (by decide)
  unfold lt l2 wh w2
  rw [sw_o ⟨Or.inl c0, Or.inl d1⟩, sw_o ⟨Or.inl d2, Or.inl c8⟩, sw_o ⟨Or.inl d2, Or.inl c8⟩, sw_o ⟨Or.inl d2, Or.inl c8⟩]
  exact ⟨rfl, rfl, rfl, rfl⟩
theorem cs_h_sw {L : List Nat} {R : xa_AR} {h x : Nat} (g : cs_h L R x) : cs_h L (swR R h) x := by
  refine ⟨g.1, fun q hq => ?_⟩
  have n : q.1 < 16 ∧ q.2.1 ≠ 15 := (by decide : ∀ q ∈ cs_tab, q.1 < 16 ∧ q.2.1 ≠ 15) q hq
  rw [sw_o ⟨Or.inr n.2, Or.inl (fun e => by have := ((ci_inj (by omega) (by decide)).mp e).2; omega)⟩]; exact g.2 q hq
theorem cs_l_sw {L : List Nat} {R : xa_AR} {h q : Nat} (g : cs_l L R q) : cs_l L (swR R h) q := by
  have n1 : q ≠ ci h 0 := fun e => by have := g.2.1; rw [e, kd_0] at this; cases this
  have n2 : q ≠ ci h 80 := fun e => by have := g.2.1; rw [e, kd_80] at this; cases this
  refine ⟨g.1, g.2.1, fun f hf => ?_⟩
  rw [sw_o ⟨Or.inl n1, Or.inl n2⟩]; exact g.2.2 f hf
theorem RX_swap {nh ns h : Nat} {pw : Nat → Nat} {L : List Nat} {T : xa_AH} {R : xa_AR} {S : xa_AH} (hX : RX nh ns h pw L T R S) {S2 : xa_AH} (hh : h < nh) (hb : ¬ S 139 h = 0) (e1 : T (lt R h) 1 = 0 ∧ T (lt R h) 5 = 0 ∧ T (lt R h) 8 = 0 ∧ T (lt R h) 10 = 0) (e2 : T (l2 R h) 1 = 0 ∧ T (l2 R h) 5 = 0 ∧ T (l2 R h) 8 = 0 ∧ T (l2 R h) 10 = 0) (hS : ∀ a, a < 179 → S2 a = S a) (hR : ∀ r, r < 48 → r ≠ 24 + 2 * h → r ≠ 24 + 2 * h + 1 → (r < pw h ∨ 24 ≤ r) → rowsame S S2 r) (hc : rowc S2 (24 + 2 * h) ∧ rowc S2 (24 + 2 * h + 1)) : RX nh ns h pw L T (swR R h) S2 := by
  have n12 := hX.n12
  have b0 := hX.pwb h (Nat.le_refl _)
  have hS9 : S2 139 = S 139 := hS 139 (by decide)
  have base : RX nh ns h pw L T R S := hX
  have c129 : ∀ z, ci 0 129 ≠ ci z 0 ∧ ci 0 129 ≠ ci z 80 ∧ ci 0 126 ≠ ci z 0 ∧ ci 0 126 ≠ ci z 80 ∧ ci 0 127 ≠ ci z 0 ∧ ci 0 127 ≠ ci z 80 := fun z => ⟨ci_ne (by decide) (by decide) (by decide), ci_ne (by decide) (by decide) (by decide), ci_ne (by decide) (by decide) (by decide), ci_ne (by decide) (by decide) (by decide), ci_ne (by decide) (by decide) (by decide), ci_ne (by decide) (by decide) (by decide)⟩
  have hSa : ∀ a, a < 176 → S2 a = S a := fun a ha => hS a (by omega)
  refine ⟨?_, ?_, by rw [rx_g_C (fun _ _ _ => rfl) (fun a ha => hS a (by omega))]; exact hX.rx_g, ?_, ?_, by rw [rx_r_C (fun _ _ _ => rfl) (fun a ha => hS a (by omega))]; exact hX.rx_r, by rw [rx_a_C (fun _ _ _ => rfl) (fun a ha => hS a (by omega))]; exact hX.rx_a, hX.rx_b, ?_, ?_, by rw [xm_wf_C (fun a ha => hS a (by omega))]; exact hX.xm_wf, by rw [iv_h_C (fun a ha => hS a (by omega))]; exact hX.iv_h, by rw [iv_s_C (fun a ha => hS a (by omega))]; exact hX.iv_s, by rw [iv_r_C (fun a ha => hS a (by omega))]; exact hX.iv_r, ?_, by rw [iv_g_C (fun a ha => hS a (by omega))]; exact hX.iv_g, hX.rx_k, by rw [iv_e_C (fun a ha => hS a (by omega))]; exact hX.iv_e⟩
  · have q := hX.rx_c
    have z := c129 h
    refine ⟨q.1, q.2.1, q.2.2.1, by rw [sw_o ⟨Or.inl z.1, Or.inl z.2.1⟩]; exact q.2.2.2.1, by rw [sw_o ⟨Or.inl z.1, Or.inl z.2.1⟩]; exact q.2.2.2.2.1, fun x hx => ⟨cs_h_sw (hX.hS hx), ?_⟩, fun x hx => ⟨hX.sM hx, ?_⟩, fun a y b g => ?_, hX.c_nh, hX.c_ns, hX.c_ok⟩
    · rw [sw_o ⟨Or.inl z.2.2.1, Or.inl z.2.2.2.1⟩]; exact hX.hA hx
    · rw [sw_o ⟨Or.inl z.2.2.2.2.1, Or.inl z.2.2.2.2.2⟩]; exact hX.sA hx
    · have w := hX.l_br hh hb
      unfold swR xa_upr at g
      split at g
      · rw [← Option.some.inj g]; exact w.2.2.2.2.1.1
      · split at g
        · rw [← Option.some.inj g]; exact w.2.2.2.2.2.2.1.1
        · split at g
          · rw [← Option.some.inj g]; exact (hX.l_cl hh).1
          · split at g
            · rw [← Option.some.inj g]; exact w.2.2.2.2.2.1.1
            · exact hX.c_cl a y b g
  · intro x hx
    have q := hX.rx_l x hx
    rw [hS9]
    by_cases e : x = h
    · subst e
      have w := q.2.2.2.2.1 hb
      have l := sw_lt (R := R) (h := x)
      rw [l.1, l.2.1, l.2.2.1, l.2.2.2]
      refine ⟨sw_15, cs_l_sw w.2.2.2.2.2.1, ?_, fun g => absurd g hb, fun _ => ⟨w.1, sw_2, sw_3, sw_4, cs_l_sw w.2.2.2.2.2.2.1, cs_l_sw q.2.1, cs_l_sw w.2.2.2.2.1, ?_, ?_⟩, q.2.2.2.2.2⟩
      · rcases w.2.2.2.2.2.2.2.1 with c | c
        · exact Or.inr c.2
        · exact Or.inl c.2
      · rcases w.2.2.2.2.2.2.2.1 with c | c
        · exact Or.inr ⟨c.2, c.1⟩
        · exact Or.inl ⟨c.2, c.1⟩
      · rcases w.2.2.2.2.2.2.2.2 with c | c
        · exact Or.inr ⟨c.2, c.1⟩
        · exact Or.inl ⟨c.2, c.1⟩
    · have l := sw_ne (R := R) e
      have c0 : ci x 0 ≠ ci h 0 := fun w => e (ci_i.mp w)
      have c8 : ci x 80 ≠ ci h 80 := fun w => e (ci_i.mp w)
      have d1 : ci x 0 ≠ ci h 80 := ci_ne (by decide) (by decide) (by decide)
      have d2 : ci x 80 ≠ ci h 0 := ci_ne (by decide) (by decide) (by decide)
      rw [l.1, l.2.1, l.2.2.1, l.2.2.2, sw_o ⟨Or.inl c0, Or.inl d1⟩, sw_o ⟨Or.inl d2, Or.inl c8⟩, sw_o ⟨Or.inl d2, Or.inl c8⟩, sw_o ⟨Or.inl d2, Or.inl c8⟩]
      refine ⟨q.1, cs_l_sw q.2.1, q.2.2.1, q.2.2.2.1, fun g => ?_, q.2.2.2.2.2⟩
      have w := q.2.2.2.2.1 g
      exact ⟨w.1, w.2.1, w.2.2.1, w.2.2.2.1, cs_l_sw w.2.2.2.2.1, cs_l_sw w.2.2.2.2.2.1, cs_l_sw w.2.2.2.2.2.2.1, w.2.2.2.2.2.2.2⟩
  · have z : rx_h nh T (swR R h) S := by
      intro x hx
      have q := hX.rx_h x hx
      have d1 : ci x 0 ≠ ci h 80 := ci_ne (by decide) (by decide) (by decide)
      rw [sw_o (y := 11) ⟨Or.inr (by decide), Or.inl d1⟩, sw_o (y := 10) ⟨Or.inr (by decide), Or.inl d1⟩]
      exact q
    rw [rx_h_C (fun _ _ _ => rfl) (fun a ha => hS a (by omega))]; exact z
  · have z : rx_s ns T (swR R h) S := by
      intro x hx
      have q := hX.rx_s x hx
      rw [sw_o ⟨Or.inr (by decide), Or.inr (by decide)⟩]
      exact q
    rw [rx_s_C (fun _ _ _ => rfl) (fun a ha => hS a (by omega))]; exact z
  · intro x hx
    have q := hX.rx_w x hx
    rw [hS9, hS 136 (by decide)]
    by_cases e : x = h
    · subst e
      have l := sw_lt (R := R) (h := x)
      rw [l.2.2.1, l.2.2.2]
      exact ⟨fun _ => hc, fun _ _ => ⟨lr_empty e1.1 e1.2.1 e1.2.2.1 e1.2.2.2 hc.1, lr_empty e2.1 e2.2.1 e2.2.2.1 e2.2.2.2 hc.2⟩⟩
    · have l := sw_ne (R := R) e
      rw [l.2.2.1, l.2.2.2]
      have r1 := hR (24 + 2 * x) (by omega) (by omega) (by omega) (by omega)
      have r2 := hR (24 + 2 * x + 1) (by omega) (by omega) (by omega) (by omega)
      exact ⟨fun g => ⟨rowc_row r1 (q.1 g).1, rowc_row r2 (q.1 g).2⟩, fun g1 g2 => ⟨lr_row r1 (q.2 g1 g2).1, lr_row r2 (q.2 g1 g2).2⟩⟩
  · intro i hi
    have q := hX.rx_p i hi
    have l := sw_ne (R := R) (show i ≠ h by omega)
    rw [l.1, l.2.1, hS9, hS 137 (by decide)]
    have m := pw_le hX h (Nat.le_refl _) (i + 1) (by omega)
    have s := q.1
    have el : ∀ z r, r < pw h → (lrow T S i z r → lrow T S2 i z r) := fun z r hr w => ⟨by rw [hS 176 (by decide)]; exact w.1, by rw [hS 177 (by decide)]; exact w.2.1, w.2.2.1, lr_row (hR r (by omega) (by omega) (by omega) (Or.inl hr)) w.2.2.2⟩
    refine ⟨q.1, q.2.1, fun g => el _ _ ?_ (q.2.2.1 g), fun g1 g2 => el _ _ ?_ (q.2.2.2 g1 g2)⟩
    · rw [if_pos g] at s; omega
    · rw [if_pos (show ¬ S 139 i = 0 ∧ lne T (l2 R i) = true from ⟨g1, g2⟩)] at s; omega
  · have q := hX.iv_0
    simp only [iv_0, hS 137 (by decide), hS 138 (by decide), hS 139 (by decide), hS 142 (by decide), hS 143 (by decide), hS 144 (by decide), hS 154 (by decide), hS 155 (by decide), hS 156 (by decide), hS 158 (by decide), hS 159 (by decide), hS 160 (by decide), hS 161 (by decide), hS 162 (by decide), hS 163 (by decide), hS 164 (by decide), hS 165 (by decide), hS 166 (by decide)]
    refine ⟨q.1, q.2.1, q.2.2.1, fun x h1 h2 => ?_, q.2.2.2.2⟩
    have w := q.2.2.2.1 x h1 h2
    exact ⟨rowc_row (hR _ (by omega) (by omega) (by omega) (by omega)) w.1, rowc_row (hR _ (by omega) (by omega) (by omega) (by omega)) w.2⟩
/-- a row is copied; it bears nb more -/
theorem lr_copy {T : xa_AH} {q r r2 : Nat} {S S2 : xa_AH} {nb : Int32} (g : lr T q S r 0)
    (h1 : ∀ k, k < 16 → S2 179 (16 * r2 + k) = S 179 (16 * r + k) ∧ S2 180 (16 * r2 + k) = S 180 (16 * r + k) ∧ S2 181 (16 * r2 + k) = S 181 (16 * r + k) ∧ S2 182 (16 * r2 + k) = S 182 (16 * r + k) ||| nb)
    (h2 : ∀ s, s < 32 → S2 183 (32 * r2 + s) = S 183 (32 * r + s) ∧ S2 184 (32 * r2 + s) = S 184 (32 * r + s) ||| nb ∧ S2 185 (32 * r2 + s) = S 185 (32 * r + s) ∧ S2 186 (32 * r2 + s) = S 186 (32 * r + s) ||| nb ∧ S2 187 (32 * r2 + s) = S 187 (32 * r + s) ∧ S2 188 (32 * r2 + s) = S 188 (32 * r + s) ∧ S2 189 (32 * r2 + s) = S 189 (32 * r + s) ∧ S2 190 (32 * r2 + s) = S 190 (32 * r + s) ||| nb) : lr T q S2 r2 nb := by
  refine ⟨fun k hk => ?_, g.2.1, fun s hs => ?_⟩
  · have w := g.1 k hk
    have z := h1 k hk
    rw [z.1, z.2.1, z.2.2.1, z.2.2.2]
    refine ⟨w.1, fun c => ?_⟩
    have v := w.2 c
    rw [or0] at v
    exact ⟨v.1, v.2.1, by rw [v.2.2]⟩
  · have w := g.2.2 s hs
    have z := h2 s hs
    rw [z.1, z.2.1, z.2.2.1, z.2.2.2.1, z.2.2.2.2.1, z.2.2.2.2.2.1, z.2.2.2.2.2.2.1, z.2.2.2.2.2.2.2]
    refine ⟨⟨w.1.1, fun c => ?_⟩, ⟨w.2.1.1, fun c => ?_⟩, ⟨w.2.2.1, fun c => ?_⟩⟩
    · have v := w.1.2 c; rw [or0] at v; exact ⟨v.1, by rw [v.2]⟩
    · have v := w.2.1.2 c; rw [or0] at v; rw [v]
    · have v := w.2.2.2 c; rw [or0] at v; exact ⟨v.1, v.2.1, v.2.2.1, by rw [v.2.2.2.1], v.2.2.2.2⟩
