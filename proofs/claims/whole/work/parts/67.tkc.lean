/-! ===== what a bridge carries is written ===== -/
def xm_tk1 (wr fr : Nat) (b : Int32) (k : Nat) (S : xa_AH) : xa_AH := (xa_up (xa_up (xa_up (xa_up S 179 (16 * wr + k) (S 179 (16 * fr + k))) 180 (16 * wr + k) (S 180 (16 * fr + k))) 181 (16 * wr + k) (S 181 (16 * fr + k))) 182 (16 * wr + k) (S 182 (16 * fr + k) ||| b))
def xm_tk2 (wr fr : Nat) (b : Int32) (s : Nat) (S : xa_AH) : xa_AH := (xa_up (xa_up (xa_up (xa_up (xa_up (xa_up (xa_up (xa_up S 183 (32 * wr + s) (S 183 (32 * fr + s))) 184 (32 * wr + s) (S 184 (32 * fr + s) ||| b)) 185 (32 * wr + s) (S 185 (32 * fr + s))) 186 (32 * wr + s) (S 186 (32 * fr + s) ||| b)) 187 (32 * wr + s) (S 187 (32 * fr + s))) 188 (32 * wr + s) (S 188 (32 * fr + s))) 189 (32 * wr + s) (S 189 (32 * fr + s))) 190 (32 * wr + s) (S 190 (32 * fr + s) ||| b))
def xm_tkC (wr fr : Nat) (b : Int32) (S : xa_AH) : xa_AH := xm_clr fr (xa_lp (xm_tk2 wr fr b) 32 (xa_lp (xm_tk1 wr fr b) 16 S))
def xm_tk (h side wr : Nat) (net : Int32) (S : xa_AH) : xa_AH := xm_wr (xm_tkC wr (24 + 2 * h + side) (1 <<< (net &&& 31)) S) wr h net
theorem tk1_i {wr fr : Nat} {b : Int32} {S : xa_AH} (hne : wr ≠ fr) (n : Nat) (hn : n ≤ 16) : (∀ a, (a < 179 ∨ 182 < a) → (xa_lp (xm_tk1 wr fr b) n S) a = S a) ∧ (∀ r, r ≠ wr → rowsame S (xa_lp (xm_tk1 wr fr b) n S) r) ∧ (∀ k, k < n → (xa_lp (xm_tk1 wr fr b) n S) 179 (16 * wr + k) = S 179 (16 * fr + k) ∧ (xa_lp (xm_tk1 wr fr b) n S) 180 (16 * wr + k) = S 180 (16 * fr + k) ∧ (xa_lp (xm_tk1 wr fr b) n S) 181 (16 * wr + k) = S 181 (16 * fr + k) ∧ (xa_lp (xm_tk1 wr fr b) n S) 182 (16 * wr + k) = S 182 (16 * fr + k) ||| b) := by
  induction n with
  | zero => exact ⟨fun a _ => rfl, fun r _ => rowsame_rf, fun k hk => absurd hk (Nat.not_lt_zero k)⟩
  | succ n ih =>
    obtain ⟨i1, i2, i3⟩ := ih (by omega)
    rw [xa_lp]
    have fr1 := (i2 fr (Ne.symm hne)).1
    generalize xa_lp (xm_tk1 wr fr b) n S = Z at i1 i2 i3 fr1 ⊢
    unfold xm_tk1
    rw [fr1 179 (by decide) (by decide) n (by omega), fr1 180 (by decide) (by decide) n (by omega), fr1 181 (by decide) (by decide) n (by omega), fr1 182 (by decide) (by decide) n (by omega)]
    refine ⟨fun a ha => by rw [up_o (by omega), up_o (by omega), up_o (by omega), up_o (by omega)]; exact i1 a ha, fun r hr => rowsame_up (rowsame_up (rowsame_up (rowsame_up (i2 r hr) (by omega)) (by omega)) (by omega)) (by omega), fun k hk => ?_⟩
    by_cases e : k = n
    · subst e; simp [xa_up]
    · have w := i3 k (by omega)
      have z : ¬ 16 * wr + k = 16 * wr + n := by omega
      rw [up_k z, up_k z, up_k z, up_k z, up_k z, up_k z, up_k z, up_k z, up_k z, up_k z, up_k z, up_k z, up_k z, up_k z, up_k z, up_k z]
      exact w
theorem tk2_i {wr fr : Nat} {b : Int32} {S : xa_AH} (hne : wr ≠ fr) (n : Nat) (hn : n ≤ 32) : (∀ a, a < 183 → (xa_lp (xm_tk2 wr fr b) n S) a = S a) ∧ (∀ r, r ≠ wr → rowsame S (xa_lp (xm_tk2 wr fr b) n S) r) ∧ (∀ s, s < n → (xa_lp (xm_tk2 wr fr b) n S) 183 (32 * wr + s) = S 183 (32 * fr + s) ∧ (xa_lp (xm_tk2 wr fr b) n S) 184 (32 * wr + s) = S 184 (32 * fr + s) ||| b ∧ (xa_lp (xm_tk2 wr fr b) n S) 185 (32 * wr + s) = S 185 (32 * fr + s) ∧ (xa_lp (xm_tk2 wr fr b) n S) 186 (32 * wr + s) = S 186 (32 * fr + s) ||| b ∧ (xa_lp (xm_tk2 wr fr b) n S) 187 (32 * wr + s) = S 187 (32 * fr + s) ∧ (xa_lp (xm_tk2 wr fr b) n S) 188 (32 * wr + s) = S 188 (32 * fr + s) ∧ (xa_lp (xm_tk2 wr fr b) n S) 189 (32 * wr + s) = S 189 (32 * fr + s) ∧ (xa_lp (xm_tk2 wr fr b) n S) 190 (32 * wr + s) = S 190 (32 * fr + s) ||| b) := by
  induction n with
  | zero => exact ⟨fun a _ => rfl, fun r _ => rowsame_rf, fun k hk => absurd hk (Nat.not_lt_zero k)⟩
  | succ n ih =>
    obtain ⟨i1, i2, i3⟩ := ih (by omega)
    rw [xa_lp]
    have fr1 := (i2 fr (Ne.symm hne)).2
    generalize xa_lp (xm_tk2 wr fr b) n S = Z at i1 i2 i3 fr1 ⊢
    unfold xm_tk2
    rw [fr1 183 (by decide) n (by omega), fr1 184 (by decide) n (by omega), fr1 185 (by decide) n (by omega), fr1 186 (by decide) n (by omega), fr1 187 (by decide) n (by omega), fr1 188 (by decide) n (by omega), fr1 189 (by decide) n (by omega), fr1 190 (by decide) n (by omega)]
    refine ⟨fun a ha => by rw [up_o (by omega), up_o (by omega), up_o (by omega), up_o (by omega), up_o (by omega), up_o (by omega), up_o (by omega), up_o (by omega)]; exact i1 a ha, fun r hr => rowsame_up (rowsame_up (rowsame_up (rowsame_up (rowsame_up (rowsame_up (rowsame_up (rowsame_up (i2 r hr) (by omega)) (by omega)) (by omega)) (by omega)) (by omega)) (by omega)) (by omega)) (by omega), fun k hk => ?_⟩
    by_cases e : k = n
    · subst e; simp [xa_up]
    · have w := i3 k (by omega)
      have z : ¬ 32 * wr + k = 32 * wr + n := by omega
      simp only [up_k z]
      exact w
theorem tkC_all {wr fr : Nat} {b : Int32} {S : xa_AH} (hne : wr ≠ fr) : (∀ a, a < 179 → xm_tkC wr fr b S a = S a) ∧ (∀ r, r ≠ wr → r ≠ fr → rowsame S (xm_tkC wr fr b S) r) ∧ rowc (xm_tkC wr fr b S) fr ∧ (∀ k, k < 16 → (xm_tkC wr fr b S) 179 (16 * wr + k) = S 179 (16 * fr + k) ∧ (xm_tkC wr fr b S) 180 (16 * wr + k) = S 180 (16 * fr + k) ∧ (xm_tkC wr fr b S) 181 (16 * wr + k) = S 181 (16 * fr + k) ∧ (xm_tkC wr fr b S) 182 (16 * wr + k) = S 182 (16 * fr + k) ||| b) ∧ (∀ s, s < 32 → (xm_tkC wr fr b S) 183 (32 * wr + s) = S 183 (32 * fr + s) ∧ (xm_tkC wr fr b S) 184 (32 * wr + s) = S 184 (32 * fr + s) ||| b ∧ (xm_tkC wr fr b S) 185 (32 * wr + s) = S 185 (32 * fr + s) ∧ (xm_tkC wr fr b S) 186 (32 * wr + s) = S 186 (32 * fr + s) ||| b ∧ (xm_tkC wr fr b S) 187 (32 * wr + s) = S 187 (32 * fr + s) ∧ (xm_tkC wr fr b S) 188 (32 * wr + s) = S 188 (32 * fr + s) ∧ (xm_tkC wr fr b S) 189 (32 * wr + s) = S 189 (32 * fr + s) ∧ (xm_tkC wr fr b S) 190 (32 * wr + s) = S 190 (32 * fr + s) ||| b) := by
  obtain ⟨a1, a2, a3⟩ := tk1_i (S := S) (b := b) hne 16 (Nat.le_refl _)
  unfold xm_tkC
  generalize xa_lp (xm_tk1 wr fr b) 16 S = Z at a1 a2 a3 ⊢
  obtain ⟨b1, b2, b3⟩ := tk2_i (S := Z) (b := b) hne 32 (Nat.le_refl _)
  generalize xa_lp (xm_tk2 wr fr b) 32 Z = Y at b1 b2 b3 ⊢
  have cw := clr_same (S := Y) hne
  refine ⟨fun a ha => by rw [clr_a ha, b1 a (by omega), a1 a (Or.inl ha)], fun r h1 h2 => rowsame_tr (rowsame_tr (a2 r h1) (b2 r h1)) (clr_same h2), clr_rowc _ _, fun k hk => ?_, fun s hs => ?_⟩
  · have w := a3 k hk
    rw [cw.1 179 (by decide) (by decide) k hk, cw.1 180 (by decide) (by decide) k hk, cw.1 181 (by decide) (by decide) k hk, cw.1 182 (by decide) (by decide) k hk, b1 179 (by decide), b1 180 (by decide), b1 181 (by decide), b1 182 (by decide)]
    exact w
  · have w := b3 s hs
    rw [cw.2 183 (by decide) s hs, cw.2 184 (by decide) s hs, cw.2 185 (by decide) s hs, cw.2 186 (by decide) s hs, cw.2 187 (by decide) s hs, cw.2 188 (by decide) s hs, cw.2 189 (by decide) s hs, cw.2 190 (by decide) s hs]
    rw [a1 183 (Or.inr (by decide)), a1 184 (Or.inr (by decide)), a1 185 (Or.inr (by decide)), a1 186 (Or.inr (by decide)), a1 187 (Or.inr (by decide)), a1 188 (Or.inr (by decide)), a1 189 (Or.inr (by decide)), a1 190 (Or.inr (by decide))] at w
    exact w
