theorem rx_l_C {nh : Nat} {L : List Nat} {R : xa_AR} {S S2 : xa_AH} (hS : ∀ a, (a = 139) → S2 a = S a) : rx_l nh L R S2 = rx_l nh L R S := by
  simp only [rx_l, hS 139 (by decide)]
theorem rx_g_C {nh ns : Nat} {T T2 : xa_AH} {S S2 : xa_AH} (hT : ∀ r, (r = 129) → ∀ h, T2 (ci h r) = T (ci h r)) (hS : ∀ a, (a = 130) → S2 a = S a) : rx_g nh ns T2 S2 = rx_g nh ns T S := by
  simp only [rx_g, hS 130 (by decide), hT 129 (by decide)]
theorem rx_h_C {nh : Nat} {R : xa_AR} {T T2 : xa_AH} {S S2 : xa_AH} (hT : ∀ r, (r = 0 ∨ r = 80) → ∀ h, T2 (ci h r) = T (ci h r)) (hS : ∀ a, (131 ≤ a ∧ a ≤ 144) → S2 a = S a) : rx_h nh T2 R S2 = rx_h nh T R S := by
  simp only [rx_h, xs, hS 131 (by decide), hS 132 (by decide), hS 133 (by decide), hS 134 (by decide), hS 135 (by decide), hS 136 (by decide), hS 137 (by decide), hS 138 (by decide), hS 139 (by decide), hS 140 (by decide), hS 141 (by decide), hS 142 (by decide), hS 143 (by decide), hS 144 (by decide), hT 0 (by decide), hT 80 (by decide)]
theorem rx_s_C {ns : Nat} {R : xa_AR} {T T2 : xa_AH} {S S2 : xa_AH} (hT : ∀ r, (r = 128) → ∀ h, T2 (ci h r) = T (ci h r)) (hS : ∀ a, (146 ≤ a ∧ a ≤ 156) → S2 a = S a) : rx_s ns T2 R S2 = rx_s ns T R S := by
  simp only [rx_s, hS 146 (by decide), hS 147 (by decide), hS 148 (by decide), hS 149 (by decide), hS 150 (by decide), hS 151 (by decide), hS 152 (by decide), hS 153 (by decide), hS 154 (by decide), hS 155 (by decide), hS 156 (by decide), hT 128 (by decide)]
theorem rx_r_C {nh : Nat} {T T2 : xa_AH} {S S2 : xa_AH} (hT : ∀ r, (r = 1 ∨ r = 2 ∨ r = 3 ∨ r = 4 ∨ r = 5 ∨ r = 9 ∨ r = 10) → ∀ h, T2 (ci h r) = T (ci h r)) (hS : ∀ a, (158 ≤ a ∧ a ≤ 163) → S2 a = S a) : rx_r nh T2 S2 = rx_r nh T S := by
  simp only [rx_r, hS 158 (by decide), hS 159 (by decide), hS 160 (by decide), hS 161 (by decide), hS 162 (by decide), hS 163 (by decide), hT 1 (by decide), hT 2 (by decide), hT 3 (by decide), hT 4 (by decide), hT 5 (by decide), hT 9 (by decide), hT 10 (by decide)]
theorem rx_a_C {nh : Nat} {T T2 : xa_AH} {S S2 : xa_AH} (hT : ∀ r, (r = 6 ∨ r = 7 ∨ r = 8) → ∀ h, T2 (ci h r) = T (ci h r)) (hS : ∀ a, (164 ≤ a ∧ a ≤ 166) → S2 a = S a) : rx_a nh T2 S2 = rx_a nh T S := by
  simp only [rx_a, hS 164 (by decide), hS 165 (by decide), hS 166 (by decide), hT 6 (by decide), hT 7 (by decide), hT 8 (by decide)]
theorem rx_b_C {nh : Nat} {T T2 : xa_AH} (hT : ∀ r, (r = 6) → ∀ h, T2 (ci h r) = T (ci h r)) : rx_b nh T2 = rx_b nh T := by
  simp only [rx_b, hT 6 (by decide)]
theorem iv_h_C {nh : Nat} {S S2 : xa_AH} (hS : ∀ a, (131 ≤ a ∧ a ≤ 144) → S2 a = S a) : iv_h nh S2 = iv_h nh S := by
  simp only [iv_h, hS 131 (by decide), hS 132 (by decide), hS 133 (by decide), hS 134 (by decide), hS 135 (by decide), hS 136 (by decide), hS 137 (by decide), hS 138 (by decide), hS 139 (by decide), hS 140 (by decide), hS 141 (by decide), hS 142 (by decide), hS 143 (by decide), hS 144 (by decide)]
theorem iv_s_C {ns : Nat} {S S2 : xa_AH} (hS : ∀ a, (a = 133 ∨ a = 134 ∨ a = 137 ∨ (146 ≤ a ∧ a ≤ 156)) → S2 a = S a) : iv_s ns S2 = iv_s ns S := by
  simp only [iv_s, hS 133 (by decide), hS 134 (by decide), hS 137 (by decide), hS 146 (by decide), hS 147 (by decide), hS 148 (by decide), hS 149 (by decide), hS 150 (by decide), hS 151 (by decide), hS 152 (by decide), hS 153 (by decide), hS 154 (by decide), hS 155 (by decide), hS 156 (by decide)]
theorem iv_r_C {nh ns : Nat} {S S2 : xa_AH} (hS : ∀ a, (158 ≤ a ∧ a ≤ 163) → S2 a = S a) : iv_r nh ns S2 = iv_r nh ns S := by
  simp only [iv_r, hS 158 (by decide), hS 159 (by decide), hS 160 (by decide), hS 161 (by decide), hS 162 (by decide), hS 163 (by decide)]
theorem iv_g_C  {S S2 : xa_AH} (hS : ∀ a, (a = 130) → S2 a = S a) : iv_g S2 = iv_g S := by
  simp only [iv_g, hS 130 (by decide)]
theorem xm_wf_C {nh ns : Nat} {S S2 : xa_AH} (hS : ∀ a, (a = 130 ∨ a = 146) → S2 a = S a) : xm_wf nh ns S2 = xm_wf nh ns S := by
  simp only [xm_wf, hS 130 (by decide), hS 146 (by decide)]
theorem iv_e_C {nh : Nat} {S S2 : xa_AH} (hS : ∀ a, (a = 130 ∨ a = 158 ∨ a = 162) → S2 a = S a) : iv_e nh S2 = iv_e nh S := by
  simp only [iv_e, hS 130 (by decide), hS 158 (by decide), hS 162 (by decide)]
/-- the base of RX, when letters alone change -/
theorem RX_let {nh ns k k2 : Nat} {pw pw2 : Nat → Nat} {L : List Nat} {T T2 : xa_AH} {R : xa_AR} {S S2 : xa_AH} (hX : RX nh ns k pw L T R S) (hT : ∀ a, ¬ lcell a → T2 a = T a) (hS : ∀ a, a < 176 → S2 a = S a) (hw : rx_w nh T2 R S2) (hp : rx_p k2 pw2 T2 R S2) (h0 : ∀ h, nh ≤ h → h < 12 → rowc S2 (24 + 2 * h) ∧ rowc S2 (24 + 2 * h + 1)) (hk : rx_k k2 nh pw2) : RX nh ns k2 pw2 L T2 R S2 := by
  refine ⟨hX.rx_c, by rw [rx_l_C (fun a ha => hS a (by omega))]; exact hX.rx_l, by rw [rx_g_C (fun r hr h => hT _ (nlc (by omega) (by omega))) (fun a ha => hS a (by omega))]; exact hX.rx_g, by rw [rx_h_C (fun r hr h => hT _ (nlc (by omega) (by omega))) (fun a ha => hS a (by omega))]; exact hX.rx_h, by rw [rx_s_C (fun r hr h => hT _ (nlc (by omega) (by omega))) (fun a ha => hS a (by omega))]; exact hX.rx_s, by rw [rx_r_C (fun r hr h => hT _ (nlc (by omega) (by omega))) (fun a ha => hS a (by omega))]; exact hX.rx_r, by rw [rx_a_C (fun r hr h => hT _ (nlc (by omega) (by omega))) (fun a ha => hS a (by omega))]; exact hX.rx_a, by rw [rx_b_C (fun r hr h => hT _ (nlc (by omega) (by omega)))]; exact hX.rx_b, hw, hp, by rw [xm_wf_C (fun a ha => hS a (by omega))]; exact hX.xm_wf, by rw [iv_h_C (fun a ha => hS a (by omega))]; exact hX.iv_h, by rw [iv_s_C (fun a ha => hS a (by omega))]; exact hX.iv_s, by rw [iv_r_C (fun a ha => hS a (by omega))]; exact hX.iv_r, ?_, by rw [iv_g_C (fun a ha => hS a (by omega))]; exact hX.iv_g, hk, by rw [iv_e_C (fun a ha => hS a (by omega))]; exact hX.iv_e⟩
  have q := hX.iv_0
  simp only [iv_0, hS 137 (by decide), hS 138 (by decide), hS 139 (by decide), hS 142 (by decide), hS 143 (by decide), hS 144 (by decide), hS 154 (by decide), hS 155 (by decide), hS 156 (by decide), hS 158 (by decide), hS 159 (by decide), hS 160 (by decide), hS 161 (by decide), hS 162 (by decide), hS 163 (by decide), hS 164 (by decide), hS 165 (by decide), hS 166 (by decide)]
  exact ⟨q.1, q.2.1, q.2.2.1, h0, q.2.2.2.2⟩
/-! rows of S: clearing -/
theorem lp_up {f : Nat → xa_AH → xa_AH} {a c : Nat} {v : Int32} (hf : ∀ i S, f i S = xa_up S a (c + i) v) : ∀ n S x y, xa_lp f n S x y = if x = a ∧ c ≤ y ∧ y < c + n then v else S x y
  | 0, S, x, y => by rw [xa_lp, if_neg]; omega
  | n + 1, S, x, y => by
    rw [xa_lp, hf, up_S, lp_up hf n S x y]
    by_cases h1 : x = a
    · by_cases h2 : y = c + n
      · rw [if_pos ⟨h1, h2⟩, if_pos]; omega
      · rw [if_neg (by omega)]
        by_cases h3 : c ≤ y ∧ y < c + n
        · rw [if_pos ⟨h1, h3⟩, if_pos]; omega
        · rw [if_neg (by omega), if_neg]; omega
    · rw [if_neg (by omega), if_neg (by omega), if_neg]; omega
theorem clr_e (r : Nat) (S : xa_AH) (x y : Nat) : xm_clr r S x y = if (x = 179 ∧ 16 * r ≤ y ∧ y < 16 * r + 16) ∨ ((x = 183 ∨ x = 185 ∨ x = 187) ∧ 32 * r ≤ y ∧ y < 32 * r + 32) then 0 else S x y := by
  have e1 := lp_up (f := xm_clr1 r) (a := 179) (c := 16 * r) (v := 0) (fun i S => rfl) 16
  have e2 : ∀ n S x y, xa_lp (xm_clr2 r) n S x y = if (x = 183 ∨ x = 185 ∨ x = 187) ∧ 32 * r ≤ y ∧ y < 32 * r + n then 0 else S x y := by
    intro n
    induction n with
    | zero => intro S x y; rw [xa_lp, if_neg]; omega
    | succ n ih =>
      intro S x y
      rw [xa_lp]
      show xa_up (xa_up (xa_up (xa_lp (xm_clr2 r) n S) 183 (32 * r + n) 0) 185 (32 * r + n) 0) 187 (32 * r + n) 0 x y = _
      rw [up_S, up_S, up_S, ih S x y]
      by_cases g : (x = 183 ∨ x = 185 ∨ x = 187) ∧ 32 * r ≤ y ∧ y < 32 * r + (n + 1)
      · rw [if_pos g]
        by_cases h1 : x = 187 ∧ y = 32 * r + n
        · rw [if_pos h1]
        · rw [if_neg h1]
          by_cases h2 : x = 185 ∧ y = 32 * r + n
          · rw [if_pos h2]
          · rw [if_neg h2]
            by_cases h3 : x = 183 ∧ y = 32 * r + n
            · rw [if_pos h3]
            · rw [if_neg h3, if_pos]; omega
      · rw [if_neg g, if_neg (by omega), if_neg (by omega), if_neg (by omega), if_neg]; omega
  unfold xm_clr
  rw [e2, e1]
  by_cases g1 : x = 179 ∧ 16 * r ≤ y ∧ y < 16 * r + 16
  · rw [if_neg (by omega), if_pos g1, if_pos (Or.inl g1)]
  · by_cases g2 : (x = 183 ∨ x = 185 ∨ x = 187) ∧ 32 * r ≤ y ∧ y < 32 * r + 32
    · rw [if_pos g2, if_pos (Or.inr g2)]
    · rw [if_neg g2, if_neg g1, if_neg]; rintro (q | q)
      · exact g1 q
      · exact g2 q
theorem clr_a {r : Nat} {S : xa_AH} {a : Nat} (ha : a < 179) : xm_clr r S a = S a := by
  funext y; rw [clr_e, if_neg]; omega
theorem clr_rowc (r : Nat) (S : xa_AH) : rowc (xm_clr r S) r := by
  refine ⟨fun k hk => ?_, fun s hs => ⟨?_, ?_, ?_⟩⟩ <;> (rw [clr_e, if_pos]; omega)
theorem rowc_o {r q : Nat} {S : xa_AH} (h : rowc S q) : rowc (xm_clr r S) q := by
  refine ⟨fun k hk => ?_, fun s hs => ⟨?_, ?_, ?_⟩⟩ <;> rw [clr_e] <;> split <;> first | rfl | exact h.1 k hk | exact (h.2 s hs).1 | exact (h.2 s hs).2.1 | exact (h.2 s hs).2.2
/-- a row that is not cleared -/
theorem lr_clr {T : xa_AH} {q r r2 : Nat} {S : xa_AH} {nb : Int32} (n : r ≠ r2) : lr T q (xm_clr r2 S) r nb = lr T q S r nb := by
  have e1 : ∀ k, k < 16 → ∀ a, 179 ≤ a → a ≤ 182 → xm_clr r2 S a (16 * r + k) = S a (16 * r + k) := fun k hk a h1 h2 => by rw [clr_e, if_neg]; omega
  have e2 : ∀ s, s < 32 → ∀ a, 183 ≤ a → xm_clr r2 S a (32 * r + s) = S a (32 * r + s) := fun s hs a h1 => by rw [clr_e, if_neg]; omega
  apply propext
  constructor
  · intro g
    refine ⟨fun k hk => ?_, g.2.1, fun s hs => ?_⟩
    · have := g.1 k hk
      rw [e1 k hk 179 (by decide) (by decide), e1 k hk 180 (by decide) (by decide), e1 k hk 181 (by decide) (by decide), e1 k hk 182 (by decide) (by decide)] at this; exact this
    · have := g.2.2 s hs
      rw [e2 s hs 183 (by decide), e2 s hs 184 (by decide), e2 s hs 185 (by decide), e2 s hs 186 (by decide), e2 s hs 187 (by decide), e2 s hs 188 (by decide), e2 s hs 189 (by decide), e2 s hs 190 (by decide)] at this; exact this
  · intro g
    refine ⟨fun k hk => ?_, g.2.1, fun s hs => ?_⟩
    · have := g.1 k hk
      rw [e1 k hk 179 (by decide) (by decide), e1 k hk 180 (by decide) (by decide), e1 k hk 181 (by decide) (by decide), e1 k hk 182 (by decide) (by decide)]; exact this
    · have := g.2.2 s hs
      rw [e2 s hs 183 (by decide), e2 s hs 184 (by decide), e2 s hs 185 (by decide), e2 s hs 186 (by decide), e2 s hs 187 (by decide), e2 s hs 188 (by decide), e2 s hs 189 (by decide), e2 s hs 190 (by decide)]; exact this
