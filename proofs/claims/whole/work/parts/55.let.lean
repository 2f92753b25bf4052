/-! ===== letters and rows ===== -/
def rowsame (S S2 : xa_AH) (r : Nat) : Prop := (∀ a, 179 ≤ a → a ≤ 182 → ∀ k, k < 16 → S2 a (16 * r + k) = S a (16 * r + k)) ∧ (∀ a, 183 ≤ a → ∀ s, s < 32 → S2 a (32 * r + s) = S a (32 * r + s))
theorem rowsame_rf {S : xa_AH} {r : Nat} : rowsame S S r := ⟨fun _ _ _ _ _ => rfl, fun _ _ _ _ => rfl⟩
theorem rowsame_tr {S S2 S3 : xa_AH} {r : Nat} (h1 : rowsame S S2 r) (h2 : rowsame S2 S3 r) : rowsame S S3 r := ⟨fun a g1 g2 k hk => (h2.1 a g1 g2 k hk).trans (h1.1 a g1 g2 k hk), fun a g1 s hs => (h2.2 a g1 s hs).trans (h1.2 a g1 s hs)⟩
theorem rowsame_up {S S2 : xa_AH} {r b j : Nat} {v : Int32} (h : rowsame S S2 r) (hb : b < 179 ∨ (b ≤ 182 ∧ (j < 16 * r ∨ 16 * r + 16 ≤ j)) ∨ (183 ≤ b ∧ (j < 32 * r ∨ 32 * r + 32 ≤ j))) : rowsame S (xa_up S2 b j v) r := by
  refine ⟨fun a g1 g2 k hk => ?_, fun a g1 s hs => ?_⟩
  · rw [up_S, if_neg (by omega)]; exact h.1 a g1 g2 k hk
  · rw [up_S, if_neg (by omega)]; exact h.2 a g1 s hs
theorem lr_row {T : xa_AH} {q r : Nat} {S S2 : xa_AH} {nb : Int32} (h : rowsame S S2 r) (g : lr T q S r nb) : lr T q S2 r nb := by
  refine ⟨fun k hk => ?_, g.2.1, fun s hs => ?_⟩
  · rw [h.1 179 (by decide) (by decide) k hk, h.1 180 (by decide) (by decide) k hk, h.1 181 (by decide) (by decide) k hk, h.1 182 (by decide) (by decide) k hk]; exact g.1 k hk
  · rw [h.2 183 (by decide) s hs, h.2 184 (by decide) s hs, h.2 185 (by decide) s hs, h.2 186 (by decide) s hs, h.2 187 (by decide) s hs, h.2 188 (by decide) s hs, h.2 189 (by decide) s hs, h.2 190 (by decide) s hs]; exact g.2.2 s hs
theorem rowc_row {r : Nat} {S S2 : xa_AH} (h : rowsame S S2 r) (g : rowc S r) : rowc S2 r := by
  refine ⟨fun k hk => ?_, fun s hs => ?_⟩
  · rw [h.1 179 (by decide) (by decide) k hk]; exact g.1 k hk
  · rw [h.2 183 (by decide) s hs, h.2 185 (by decide) s hs, h.2 187 (by decide) s hs]; exact g.2 s hs
theorem lr_cell {T T2 : xa_AH} {q r : Nat} {S : xa_AH} {nb : Int32} (h : ∀ d, d < 16 → T2 (q + d) = T (q + d)) (g : lr T q S r nb) : lr T2 q S r nb := by
  have e0 : T2 q = T q := h 0 (by decide)
  simp only [lr, e0, h 3 (by decide), h 4 (by decide), h 5 (by decide), h 7 (by decide), h 8 (by decide), h 10 (by decide), h 12 (by decide), h 13 (by decide), h 14 (by decide), h 15 (by decide)]
  exact g
/-- a letter's place -/
def lat (h q : Nat) : Prop := q = ci h 16 ∨ q = ci h 32 ∨ q = ci h 48 ∨ q = ci h 64
theorem lat_lc {h q : Nat} (g : lat h q) : lcell q ∧ q % 16 = 0 := by
  unfold lcell; rcases g with e | e | e | e <;> (subst e; unfold ci; omega)
theorem lat_apart {h i q z : Nat} (g : lat h q) (g2 : lat i z) (n : q ≠ z) : q + 15 < z ∨ z + 15 < q := by
  rcases g with e | e | e | e <;> rcases g2 with f | f | f | f <;> (subst e; subst f; unfold ci at *; omega)
theorem lat_host {h i q z : Nat} (g : lat h q) (g2 : lat i z) (n : h ≠ i) : q ≠ z := by
  rcases g with e | e | e | e <;> rcases g2 with f | f | f | f <;> (subst e; subst f; unfold ci at *; omega)
theorem lat_lt {nh ns k : Nat} {pw : Nat → Nat} {L : List Nat} {T : xa_AH} {R : xa_AR} {S : xa_AH} (hX : RX nh ns k pw L T R S) {h : Nat} (hh : h < nh) : lat h (lt R h) := rl_lt hX.rx_l hh
theorem lat_b {nh ns k : Nat} {pw : Nat → Nat} {L : List Nat} {T : xa_AH} {R : xa_AR} {S : xa_AH} (hX : RX nh ns k pw L T R S) {h : Nat} (hh : h < nh) (hb : ¬ S 139 h = 0) : lat h (l2 R h) ∧ lat h (wh R h) ∧ lat h (w2 R h) := rl_b hX.rx_l hh hb
theorem four {nh ns k : Nat} {pw : Nat → Nat} {L : List Nat} {T : xa_AH} {R : xa_AR} {S : xa_AH} (hX : RX nh ns k pw L T R S) {h : Nat} (hh : h < nh) (hb : ¬ S 139 h = 0) : lt R h ≠ l2 R h ∧ lt R h ≠ wh R h ∧ lt R h ≠ w2 R h ∧ l2 R h ≠ wh R h ∧ l2 R h ≠ w2 R h ∧ wh R h ≠ w2 R h := by
  have q := hX.l_br hh hb
  rcases q.2.2.2.2.2.2.2.1 with e | e <;> rcases q.2.2.2.2.2.2.2.2 with f | f <;> (rw [e.1, e.2, f.1, f.2]; unfold ci; omega)
/-- a letter q0 of host h and its row r0 change, and nothing else -/
theorem RX_one {nh ns k : Nat} {pw : Nat → Nat} {L : List Nat} {T : xa_AH} {R : xa_AR} {S : xa_AH} (hX : RX nh ns k pw L T R S) {T2 S2 : xa_AH} {h q0 r0 : Nat} (hh : h < nh) (hq : lat h q0) (hT : ∀ a, (a < q0 ∨ q0 + 15 < a) → T2 a = T a) (hS : ∀ a, a < 179 → S2 a = S a) (hR : ∀ r, r < 48 → r ≠ r0 → rowsame S S2 r)
    (hw : ∀ x, x < nh → ¬ S 139 x = 0 → ¬ S 136 x = 0 → (wh R x = q0 ∨ 24 + 2 * x = r0 → lr T2 (wh R x) S2 (24 + 2 * x) 0) ∧ (w2 R x = q0 ∨ 24 + 2 * x + 1 = r0 → lr T2 (w2 R x) S2 (24 + 2 * x + 1) 0))
    (hc : ∀ x, x < 12 → (x < nh → S 139 x = 0) → r0 ≠ 24 + 2 * x ∧ r0 ≠ 24 + 2 * x + 1)
    (hp : ∀ i, i < k → lt R i ≠ q0 ∧ (¬ S 139 i = 0 → l2 R i ≠ q0) ∧ (lne T (lt R i) = true → pw i ≠ r0) ∧ (¬ S 139 i = 0 → lne T (l2 R i) = true → pw i + (if lne T (lt R i) = true then 1 else 0) ≠ r0)) : RX nh ns k pw L T2 R S2 := by
  have n12 := hX.n12
  have kle := hX.k_le
  have lc : ∀ a, ¬ lcell a → T2 a = T a := fun a ha => hT a (by
    have := lc_out (q := q0) (h := h) hq ha; exact this)
  have cel : ∀ i z, lat i z → z ≠ q0 → ∀ d, d < 16 → T2 (z + d) = T (z + d) := fun i z hz n d hd => hT _ (by
    have := lat_apart hq hz (Ne.symm n); omega)
  refine RX_let hX lc (fun a ha => hS a (by omega)) ?_ ?_ ?_ hX.rx_k
  · intro x hx
    have q := hX.rx_w x hx
    rw [hS 139 (by decide), hS 136 (by decide)]
    refine ⟨fun g => ?_, fun g1 g2 => ?_⟩
    · have c := hc x (by omega) (fun _ => g)
      exact ⟨rowc_row (hR _ (by omega) (Ne.symm c.1)) (q.1 g).1, rowc_row (hR _ (by omega) (Ne.symm c.2)) (q.1 g).2⟩
    · have w := hw x hx g1 g2
      have l := lat_b hX hx g1
      refine ⟨?_, ?_⟩
      · by_cases c : wh R x = q0 ∨ 24 + 2 * x = r0
        · exact w.1 c
        · exact lr_cell (cel x _ l.2.1 (fun e => c (Or.inl e))) (lr_row (hR _ (by omega) (fun e => c (Or.inr e))) (q.2 g1 g2).1)
      · by_cases c : w2 R x = q0 ∨ 24 + 2 * x + 1 = r0
        · exact w.2 c
        · exact lr_cell (cel x _ l.2.2 (fun e => c (Or.inl e))) (lr_row (hR _ (by omega) (fun e => c (Or.inr e))) (q.2 g1 g2).2)
  · intro i hi
    have q := hX.rx_p i hi
    have c := hp i hi
    have b := hX.pwb i (by omega)
    have e1 : T2 (lt R i) = T (lt R i) := cel i _ (lat_lt hX (by omega)) c.1 0 (by decide)
    have f1 : lne T2 (lt R i) = lne T (lt R i) := by unfold lne lx_all; rw [e1]
    have f2 : ¬ S 139 i = 0 → T2 (l2 R i) = T (l2 R i) := fun g => cel i _ (lat_b hX (by omega) g).1 (c.2.1 g) 0 (by decide)
    have f3 : ¬ S 139 i = 0 → lne T2 (l2 R i) = lne T (l2 R i) := fun g => by unfold lne lx_all; rw [f2 g]
    have f4 : (¬ S 139 i = 0 ∧ lne T2 (l2 R i) = true) = (¬ S 139 i = 0 ∧ lne T (l2 R i) = true) := propext ⟨fun ⟨g1, g2⟩ => ⟨g1, by rw [← f3 g1]; exact g2⟩, fun ⟨g1, g2⟩ => ⟨g1, by rw [f3 g1]; exact g2⟩⟩
    rw [hS 139 (by decide), hS 137 (by decide), f1]
    simp only [f4]
    refine ⟨q.1, q.2.1, fun g => ?_, fun g1 g2 => ?_⟩
    · have w := q.2.2.1 g
      refine ⟨by rw [hS 176 (by decide)]; exact w.1, by rw [hS 177 (by decide), e1]; exact w.2.1, by rw [e1]; exact w.2.2.1, ?_⟩
      rw [e1]
      exact lr_cell (cel i _ (lat_lt hX (by omega)) c.1) (lr_row (hR _ (by omega) (c.2.2.1 g)) w.2.2.2)
    · rw [f3 g1] at g2
      have w := q.2.2.2 g1 g2
      have b2 : pw i + (if lne T (lt R i) = true then 1 else 0) ≤ 2 * i + 1 := by split <;> omega
      refine ⟨by rw [hS 176 (by decide)]; exact w.1, by rw [hS 177 (by decide), f2 g1]; exact w.2.1, by rw [f2 g1]; exact w.2.2.1, ?_⟩
      rw [f2 g1]
      exact lr_cell (cel i _ (lat_b hX (by omega) g1).1 (c.2.1 g1)) (lr_row (hR _ (by omega) (c.2.2.2 g1 g2)) w.2.2.2)
  · intro x h1 h2
    have q := hX.i0_w x h1 h2
    have c := hc x h2 (fun w => by omega)
    exact ⟨rowc_row (hR _ (by omega) (Ne.symm c.1)) q.1, rowc_row (hR _ (by omega) (Ne.symm c.2)) q.2⟩
/-! what comes into a letter -/
theorem lr_addAsk {T : xa_AH} {q r kd : Nat} {S : xa_AH} {nb m kn b : Int32} (hk : kd < 16) (g : lr T q S r nb) : lr (lx_addAsk T q kd m kn b) q (xa_up (xa_up (xa_up (xa_up S 179 (16 * r + kd) 1) 180 (16 * r + kd) m) 181 (16 * r + kd) kn) 182 (16 * r + kd) (b ||| nb)) r nb := by
  unfold lx_addAsk
  refine ⟨fun k hk2 => ?_, fun k hk2 => ?_, fun s hs => ?_⟩
  · have w := g.1 k hk2
    have e : (16 * r + k = 16 * r + kd) = (k = kd) := propext (by omega)
    by_cases c : k = kd
    · subst c
      simp [xa_up, bt_bset (show k < 32 by omega)]
    · simp only [xa_up, e, c]
      simp [bt_bset (show kd < 32 by omega), c]
      simpa using w
  · have w := g.2.1 k hk2
    have c : ¬ k = kd := by omega
    simp [xa_up, bt_bset (show kd < 32 by omega), c, w]
  · have w := g.2.2 s hs
    simp only [xa_up]
    simpa using w
theorem lr_addClaim {T : xa_AH} {q r s0 : Nat} {S : xa_AH} {nb n b : Int32} (hs0 : s0 < 32) (hn : 0 < n) (g : lr T q S r nb) : lr (lx_addClaim T q s0 n b) q (xa_up (xa_up S 183 (32 * r + s0) n) 184 (32 * r + s0) (b ||| nb)) r nb := by
  unfold lx_addClaim
  refine ⟨fun k hk2 => ?_, fun k hk2 => ?_, fun s hs => ?_⟩
  · have w := g.1 k hk2
    simp only [xa_up]
    simpa using w
  · have w := g.2.1 k hk2
    simp only [xa_up]
    simpa using w
  · have w := g.2.2 s hs
    have e : (32 * r + s = 32 * r + s0) = (s = s0) := propext (by omega)
    refine ⟨?_, by simp only [xa_up]; simpa using w.2.1, by simp only [xa_up]; simpa using w.2.2⟩
    by_cases c : s = s0
    · subst c
      simp [xa_up, bt_bset hs, hn]
    · simp only [xa_up, e, c]
      simp [bt_bset hs0, c]
      simpa using w.1
theorem lr_addBye {T : xa_AH} {q r s0 : Nat} {S : xa_AH} {nb b : Int32} (hs0 : s0 < 32) (g : lr T q S r nb) : lr (lx_addBye T q s0 b) q (xa_up (xa_up S 185 (32 * r + s0) 1) 186 (32 * r + s0) (b ||| nb)) r nb := by
  unfold lx_addBye
  refine ⟨fun k hk2 => ?_, fun k hk2 => ?_, fun s hs => ?_⟩
  · have w := g.1 k hk2
    simp only [xa_up]
    simpa using w
  · have w := g.2.1 k hk2
    simp only [xa_up]
    simpa using w
  · have w := g.2.2 s hs
    have e : (32 * r + s = 32 * r + s0) = (s = s0) := propext (by omega)
    refine ⟨by simp only [xa_up]; simpa using w.1, ?_, by simp only [xa_up]; simpa using w.2.2⟩
    by_cases c : s = s0
    · subst c
      simp [xa_up, bt_bset hs]
    · simp only [xa_up, e, c]
      simp [bt_bset hs0, c]
      simpa using w.2.1
theorem lr_addTelling {T : xa_AH} {q r s0 : Nat} {S : xa_AH} {nb n m l b : Int32} (hs0 : s0 < 32) (hn : 0 < n) (hl : vp_in l 201) (g : lr T q S r nb) : lr (lx_addTelling T q s0 n m l b) q (xa_up (xa_up (xa_up (xa_up S 187 (32 * r + s0) n) 188 (32 * r + s0) m) 189 (32 * r + s0) l) 190 (32 * r + s0) (b ||| nb)) r nb := by
  unfold lx_addTelling
  refine ⟨fun k hk2 => ?_, fun k hk2 => ?_, fun s hs => ?_⟩
  · have w := g.1 k hk2
    simp only [xa_up]
    simpa using w
  · have w := g.2.1 k hk2
    simp only [xa_up]
    simpa using w
  · have w := g.2.2 s hs
    have e : (32 * r + s = 32 * r + s0) = (s = s0) := propext (by omega)
    refine ⟨by simp only [xa_up]; simpa using w.1, by simp only [xa_up]; simpa using w.2.1, ?_⟩
    by_cases c : s = s0
    · subst c
      simp [xa_up, bt_bset hs, hn, hl]
    · simp only [xa_up, e, c]
      simp [bt_bset hs0, c]
      simpa using w.2.2
theorem or0 {b : Int32} : b ||| 0 = b := b_ext (fun i _ => by rw [b_or, b_0]; simp)
theorem zor {b : Int32} : 0 ||| b = b := b_ext (fun i _ => by rw [b_or, b_0]; simp)
/-! sizes -/
def lsz (T : xa_AH) (q : Nat) : Nat := xa_ct (bt (T q 1)) 32 + xa_ct (bt (T q 5)) 32 + xa_ct (bt (T q 8)) 32 + xa_ct (bt (T q 10)) 32
theorem ct_bset {x : Int32} {s : Nat} (hs : s < 32) : xa_ct (bt (bset x s)) 32 = xa_ct (bt x) 32 + (if bt x s = true then 0 else 1) := by
  have key : ∀ n, xa_ct (bt (bset x s)) n = xa_ct (bt x) n + (if bt x s = true then 0 else if s < n then 1 else 0) := by
    intro n
    induction n with
    | zero => simp [xa_ct]
    | succ n ih =>
      rw [xa_ct, xa_ct, ih, bt_bset hs]
      by_cases e : n = s
      · subst e
        cases h : bt x n <;> simp
      · have e2 : (s < n + 1) = (s < n) := propext (by omega)
        simp only [e2, e, decide_false, Bool.or_false]
        omega
  rw [key 32]; simp [hs]
