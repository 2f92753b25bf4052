def xm_adS (ns : Nat) (S : xa_AH) (h kd nm mk lf : Int32) (fb : Bool) : xa_AH := if fb = true then (xa_up (xa_up (xa_up (xa_up (xm_comes ns S h kd nm mk lf) 156 ns 1) 151 ns 2) 152 ns 0) 153 ns (S 130 36)) else xm_comes ns S h kd nm mk lf
section SVS
variable {S : xa_AH} {ns a x j : Nat} {h kd nm mk lf : Int32} {fb : Bool}
theorem sv_a (g : a ≠ 130 ∧ (a < 146 ∨ 153 < a) ∧ a ≠ 156) : xm_adS ns S h kd nm mk lf fb a = S a := by
  have e : xm_comes ns S h kd nm mk lf a = S a := by
    unfold xm_comes
    rw [up_o (by omega), up_o (by omega), up_o (by omega), up_o (by omega), up_o (by omega), up_o (by omega), up_o (by omega), up_o (by omega), up_o (by omega)]
  unfold xm_adS
  split
  · rw [up_o (by omega), up_o (by omega), up_o (by omega), up_o (by omega)]; exact e
  · exact e
theorem sv_x (g : a ≠ 130) (hx : x ≠ ns) : xm_adS ns S h kd nm mk lf fb a x = S a x := by
  have e : xm_comes ns S h kd nm mk lf a x = S a x := by
    unfold xm_comes
    rw [up_o g, up_k hx, up_k hx, up_k hx, up_k hx, up_k hx, up_k hx, up_k hx, up_k hx]
  unfold xm_adS
  split
  · rw [up_k hx, up_k hx, up_k hx, up_k hx]; exact e
  · exact e
theorem sv_g (g : j ≠ 26) : xm_adS ns S h kd nm mk lf fb 130 j = S 130 j := by
  have e : xm_comes ns S h kd nm mk lf 130 j = S 130 j := by
    unfold xm_comes
    rw [up_k g, up_o (by decide), up_o (by decide), up_o (by decide), up_o (by decide), up_o (by decide), up_o (by decide), up_o (by decide), up_o (by decide)]
  unfold xm_adS
  split
  · rw [up_o (by decide), up_o (by decide), up_o (by decide), up_o (by decide)]; exact e
  · exact e
theorem sv_26 : xm_adS ns S h kd nm mk lf fb 130 26 = S 130 26 + 1 := by
  unfold xm_adS xm_comes
  split
  · rw [up_o (by decide), up_o (by decide), up_o (by decide), up_o (by decide), up_s]
  · rw [up_s]
theorem sv_n : xm_adS ns S h kd nm mk lf fb 146 ns = h ∧ xm_adS ns S h kd nm mk lf fb 147 ns = kd ∧ xm_adS ns S h kd nm mk lf fb 148 ns = nm ∧ xm_adS ns S h kd nm mk lf fb 149 ns = mk ∧ xm_adS ns S h kd nm mk lf fb 150 ns = lf ∧ xm_adS ns S h kd nm mk lf fb 151 ns = (if fb = true then 2 else 1) ∧ xm_adS ns S h kd nm mk lf fb 152 ns = (if fb = true then 0 else 3) ∧ (fb = true → xm_adS ns S h kd nm mk lf fb 153 ns = S 130 36) ∧ (xm_adS ns S h kd nm mk lf fb 156 ns = if fb = true then 1 else S 156 ns) := by
  cases fb <;> simp [xm_adS, xm_comes, xa_up]
end SVS
def adT (T : xa_AH) (ns : Nat) (kd nm mk lf now : Int32) (fb : Bool) : xa_AH := if fb = true then xa_up (xa_up (svT (xa_zi T (ci ns 128)) ns (nI ns) kd nm mk lf fb) (ci ns 128) 7 2) (ci ns 128) 9 now else svT (xa_zi T (ci ns 128)) ns (nI ns) kd nm mk lf fb
def adR (R : xa_AR) (ns h : Nat) : xa_AR := xa_upr (xa_upr (xa_zr R (ci ns 128)) (ci ns 128) 1 (some (ci h 0))) (ci 0 127) ns (some (ci ns 128))
theorem adT_o {T : xa_AH} {ns a : Nat} {kd nm mk lf now : Int32} {fb : Bool} (e : a ≠ ci ns 128) : adT T ns kd nm mk lf now fb a = T a := by
  have z : svT (xa_zi T (ci ns 128)) ns (nI ns) kd nm mk lf fb a = T a := by
    unfold svT; rw [up_o e, up_o e, up_o e, up_o e, up_o e, up_o e, up_o e, up_o e, zi_o e]
  unfold adT; split
  · rw [up_o e, up_o e]; exact z
  · exact z
theorem adT_n {T : xa_AH} {ns : Nat} {kd nm mk lf now : Int32} {fb : Bool} : adT T ns kd nm mk lf now fb (ci ns 128) 0 = nI ns ∧ adT T ns kd nm mk lf now fb (ci ns 128) 2 = kd ∧ adT T ns kd nm mk lf now fb (ci ns 128) 3 = lf ∧ adT T ns kd nm mk lf now fb (ci ns 128) 4 = (if fb = true then 1 else 0) ∧ adT T ns kd nm mk lf now fb (ci ns 128) 5 = nm ∧ adT T ns kd nm mk lf now fb (ci ns 128) 6 = mk ∧ adT T ns kd nm mk lf now fb (ci ns 128) 7 = (if fb = true then 2 else 1) ∧ adT T ns kd nm mk lf now fb (ci ns 128) 8 = 3 ∧ (fb = true → adT T ns kd nm mk lf now fb (ci ns 128) 9 = now) ∧ adT T ns kd nm mk lf now fb (ci ns 128) 10 = 0 ∧ adT T ns kd nm mk lf now fb (ci ns 128) 11 = 0 := by
  cases fb <;> simp [adT, svT, xa_up, xa_zi, xa_b]
theorem adR_o {R : xa_AR} {ns h a : Nat} (e : a ≠ ci ns 128) (e2 : a ≠ ci 0 127) : adR R ns h a = R a := by
  funext y; unfold adR; rw [upr_o (Or.inr e2), upr_o (Or.inr e), zr_o e]
set_option maxHeartbeats 1000000 in
theorem RX_serv {nh ns : Nat} {pw : Nat → Nat} {L : List Nat} {T : xa_AH} {R : xa_AR} {S : xa_AH} (hX : RX nh ns 0 pw L T R S) (hn : ns < 32) {h : Nat} (hh : h < nh) (h7 : S 137 h = 0) {kd nm mk lf : Int32} {fb : Bool} (k1 : vp_in kd 16) (k2 : vp_in lf 201) (k3 : 1 ≤ nm ∧ nm ≤ 250) (k4 : fb = false → S 133 h ≤ nm ∧ nm ≤ S 134 h) : RX nh (ns + 1) 0 pw (L ++ [ci ns 128]) (xa_up (adT T ns kd nm mk lf (S 130 36) fb) (ci 0 129) 3 (nI ns + 1)) (adR R ns h) (xm_adS ns S (nI h) kd nm mk lf fb) := by
  have n12 := hX.n12
  have mem : ∀ a, a ∈ L ++ [ci ns 128] ↔ a ∈ L ∨ a = ci ns 128 := fun a => by simp
  have oT : ∀ a, a % 256 < 126 → (xa_up (adT T ns kd nm mk lf (S 130 36) fb) (ci 0 129) 3 (nI ns + 1)) a = T a := fun a f => by
    rw [up_o (fun e => by rw [e] at f; exact absurd f (by decide)), adT_o (fun e => by rw [e, ci_m (by decide)] at f; omega)]
  have oR : ∀ a, a % 256 < 126 → (adR R ns h) a = R a := fun a f => adR_o (fun e => by rw [e, ci_m (by decide)] at f; omega) (fun e => by rw [e] at f; exact absurd f (by decide))
  have cT : ∀ x r, r < 126 → (xa_up (adT T ns kd nm mk lf (S 130 36) fb) (ci 0 129) 3 (nI ns + 1)) (ci x r) = T (ci x r) := fun x r hr => oT _ (by rw [ci_m (by omega)]; exact hr)
  have cR : ∀ x r, r < 126 → (adR R ns h) (ci x r) = R (ci x r) := fun x r hr => oR _ (by rw [ci_m (by omega)]; exact hr)
  have el1 : lt (adR R ns h) = lt R := by funext x; unfold lt; rw [cR x 0 (by decide)]
  have el2 : l2 (adR R ns h) = l2 R := by funext x; unfold l2; rw [cR x 80 (by decide)]
  have el3 : wh (adR R ns h) = wh R := by funext x; unfold wh; rw [cR x 80 (by decide)]
  have el4 : w2 (adR R ns h) = w2 R := by funext x; unfold w2; rw [cR x 80 (by decide)]
  have csl : ∀ x q, lat x q → cs_l L R q → cs_l (L ++ [ci ns 128]) (adR R ns h) q := fun x q hl g => by
    refine ⟨(mem _).mpr (Or.inl g.1), g.2.1, fun f hf => ?_⟩
    have z := g.2.2 f hf
    rw [oR q (by have := (lat_lc hl).1.2; omega)]
    exact ⟨z.1, (mem _).mpr (Or.inl z.2.1), z.2.2⟩
  have rws : ∀ r, rowsame S (xm_adS ns S (nI h) kd nm mk lf fb) r := fun r => ⟨fun a b1 b2 k hk => by rw [sv_a (by omega)], fun a b1 s hs => by rw [sv_a (by omega)]⟩
  have lrc : ∀ x q r nb, lat x q → lr T q S r nb → lr (xa_up (adT T ns kd nm mk lf (S 130 36) fb) (ci 0 129) 3 (nI ns + 1)) q (xm_adS ns S (nI h) kd nm mk lf fb) r nb := fun x q r nb hl g => lr_row (rws r) (lr_cell (T := T) (fun d hd => oT _ (by have a := (lat_lc hl).1; have b := (lat_lc hl).2; unfold lcell at a; omega)) g)
  obtain ⟨i0h, i0r, i0a, i0w, i0s⟩ := hX.iv_0
  have z0 := i0s ns (Nat.le_refl _) hn
  have sn := sv_n (S := S) (ns := ns) (h := nI h) (kd := kd) (nm := nm) (mk := mk) (lf := lf) (fb := fb)
  have nT : ∀ y, (xa_up (adT T ns kd nm mk lf (S 130 36) fb) (ci 0 129) 3 (nI ns + 1)) (ci ns 128) y = adT T ns kd nm mk lf (S 130 36) fb (ci ns 128) y := fun y => by rw [up_o (ci_ne (by decide) (by decide) (by decide))]
  have e129 : ci 0 129 ≠ ci ns 128 := ci_ne (by decide) (by decide) (by decide)
  have e127 : ci 0 127 ≠ ci ns 128 := ci_ne (by decide) (by decide) (by decide)
  have e126 : ci 0 126 ≠ ci ns 128 := ci_ne (by decide) (by decide) (by decide)
  refine ⟨?_, ?_, ?_, ?_, ?_, ?_, ?_, ?_, ?_, fun i hi => absurd hi (Nat.not_lt_zero i), ?_, ?_, ?_, ?_, ?_, ?_, ⟨Nat.zero_le _, hX.k_p0⟩, ?_⟩
  · -- rx_c
    refine ⟨(mem _).mpr (Or.inl hX.c_m129), (mem _).mpr (Or.inl hX.c_m126), (mem _).mpr (Or.inl hX.c_m127), by rw [adR_o e129 (ci_ne (by decide) (by decide) (by decide))]; exact hX.c_r0, by rw [adR_o e129 (ci_ne (by decide) (by decide) (by decide))]; exact hX.c_r1, fun x hx => ⟨⟨fun r hr => (mem _).mpr (Or.inl ((hX.hS hx).1 r hr)), fun q hq => ?_⟩, ?_⟩, fun s hs => ?_, fun a y b g => ?_, fun x r hx hr z => ?_, fun s hs z => ?_, fun a ha => ?_⟩
    · have n : q.1 < 126 := (by decide : ∀ q ∈ cs_tab, q.1 < 126) q hq
      rw [cR x _ n]; exact (hX.hS hx).2 q hq
    · rw [adR_o e126 (ci_ne (by decide) (by decide) (by decide))]; exact hX.hA hx
    · by_cases e : s = ns
      · subst e; exact ⟨(mem _).mpr (Or.inr rfl), by unfold adR; rw [upr_s]⟩
      · refine ⟨(mem _).mpr (Or.inl (hX.sM (by omega))), ?_⟩
        unfold adR; rw [upr_o (Or.inl e), upr_o (Or.inr e127), zr_o e127]; exact hX.sA (by omega)
    · unfold adR at g
      unfold xa_upr at g
      split at g
      · rw [← Option.some.inj g]; exact (mem _).mpr (Or.inr rfl)
      · split at g
        · rw [← Option.some.inj g]; exact (mem _).mpr (Or.inl ((hX.hS hh).1 0 (by decide)))
        · unfold xa_zr at g
          split at g
          · cases g
          · exact (mem _).mpr (Or.inl (hX.c_cl a y b g))
    · rcases (mem _).mp z with c | c
      · exact hX.c_nh x r hx hr c
      · exact absurd c (ci_ne (by omega) (by decide) (by omega))
    · rcases (mem _).mp z with c | c
      · exact hX.c_ns s (by omega) c
      · exact absurd (ci_i.mp c) (by omega)
    · rcases (mem _).mp ha with c | c
      · exact hX.c_ok a c
      · subst c; rw [ci_m (by decide)]; decide
  · -- rx_l
    intro x hx
    have q := hX.rx_l x hx
    rw [sv_a (a := 139) (by decide), el1, el2, el3, el4, cR x 0 (by decide), cR x 80 (by decide)]
    refine ⟨q.1, csl x _ (lat_lt hX hx) q.2.1, q.2.2.1, q.2.2.2.1, fun g => ?_, fun g r r1 r2 z => ?_⟩
    · have w := q.2.2.2.2.1 g
      have lb := lat_b hX hx g
      exact ⟨(mem _).mpr (Or.inl w.1), w.2.1, w.2.2.1, w.2.2.2.1, csl x _ lb.1 w.2.2.2.2.1, csl x _ lb.2.1 w.2.2.2.2.2.1, csl x _ lb.2.2 w.2.2.2.2.2.2.1, w.2.2.2.2.2.2.2⟩
    · rcases (mem _).mp z with c | c
      · exact q.2.2.2.2.2 g r r1 r2 c
      · exact absurd c (ci_ne (by omega) (by decide) (by omega))
  · -- rx_g
    have q := hX.rx_g
    have t : ∀ y, y ≠ 3 → (xa_up (adT T ns kd nm mk lf (S 130 36) fb) (ci 0 129) 3 (nI ns + 1)) (ci 0 129) y = T (ci 0 129) y := fun y hy => by rw [up_k hy, adT_o e129]
    simp only [rx_g, up_s, t 2 (by decide), t 4 (by decide), t 5 (by decide), t 6 (by decide), t 7 (by decide), t 8 (by decide), t 9 (by decide), t 10 (by decide), t 11 (by decide), t 12 (by decide), sv_g (S := S) (j := 36) (ns := ns) (h := nI h) (kd := kd) (nm := nm) (mk := mk) (lf := lf) (fb := fb) (by decide), sv_g (S := S) (j := 37) (ns := ns) (h := nI h) (kd := kd) (nm := nm) (mk := mk) (lf := lf) (fb := fb) (by decide), sv_g (S := S) (j := 38) (ns := ns) (h := nI h) (kd := kd) (nm := nm) (mk := mk) (lf := lf) (fb := fb) (by decide), sv_g (S := S) (j := 39) (ns := ns) (h := nI h) (kd := kd) (nm := nm) (mk := mk) (lf := lf) (fb := fb) (by decide), sv_g (S := S) (j := 40) (ns := ns) (h := nI h) (kd := kd) (nm := nm) (mk := mk) (lf := lf) (fb := fb) (by decide), sv_g (S := S) (j := 41) (ns := ns) (h := nI h) (kd := kd) (nm := nm) (mk := mk) (lf := lf) (fb := fb) (by decide), sv_g (S := S) (j := 42) (ns := ns) (h := nI h) (kd := kd) (nm := nm) (mk := mk) (lf := lf) (fb := fb) (by decide), sv_g (S := S) (j := 43) (ns := ns) (h := nI h) (kd := kd) (nm := nm) (mk := mk) (lf := lf) (fb := fb) (by decide), sv_g (S := S) (j := 44) (ns := ns) (h := nI h) (kd := kd) (nm := nm) (mk := mk) (lf := lf) (fb := fb) (by decide)] at q ⊢
    exact ⟨q.1, nI_1 ns, q.2.2⟩
  · -- rx_h
    intro x hx
    have q := hX.rx_h x hx
    simp only [xs, sv_a (S := S) (a := 131) (ns := ns) (h := nI h) (kd := kd) (nm := nm) (mk := mk) (lf := lf) (fb := fb) (by decide), sv_a (S := S) (a := 132) (ns := ns) (h := nI h) (kd := kd) (nm := nm) (mk := mk) (lf := lf) (fb := fb) (by decide), sv_a (S := S) (a := 133) (ns := ns) (h := nI h) (kd := kd) (nm := nm) (mk := mk) (lf := lf) (fb := fb) (by decide), sv_a (S := S) (a := 134) (ns := ns) (h := nI h) (kd := kd) (nm := nm) (mk := mk) (lf := lf) (fb := fb) (by decide), sv_a (S := S) (a := 135) (ns := ns) (h := nI h) (kd := kd) (nm := nm) (mk := mk) (lf := lf) (fb := fb) (by decide), sv_a (S := S) (a := 136) (ns := ns) (h := nI h) (kd := kd) (nm := nm) (mk := mk) (lf := lf) (fb := fb) (by decide), sv_a (S := S) (a := 137) (ns := ns) (h := nI h) (kd := kd) (nm := nm) (mk := mk) (lf := lf) (fb := fb) (by decide), sv_a (S := S) (a := 138) (ns := ns) (h := nI h) (kd := kd) (nm := nm) (mk := mk) (lf := lf) (fb := fb) (by decide), sv_a (S := S) (a := 139) (ns := ns) (h := nI h) (kd := kd) (nm := nm) (mk := mk) (lf := lf) (fb := fb) (by decide), sv_a (S := S) (a := 140) (ns := ns) (h := nI h) (kd := kd) (nm := nm) (mk := mk) (lf := lf) (fb := fb) (by decide), sv_a (S := S) (a := 141) (ns := ns) (h := nI h) (kd := kd) (nm := nm) (mk := mk) (lf := lf) (fb := fb) (by decide), sv_a (S := S) (a := 142) (ns := ns) (h := nI h) (kd := kd) (nm := nm) (mk := mk) (lf := lf) (fb := fb) (by decide), sv_a (S := S) (a := 143) (ns := ns) (h := nI h) (kd := kd) (nm := nm) (mk := mk) (lf := lf) (fb := fb) (by decide), sv_a (S := S) (a := 144) (ns := ns) (h := nI h) (kd := kd) (nm := nm) (mk := mk) (lf := lf) (fb := fb) (by decide)] at q ⊢
    rw [cT x 0 (by decide), cT x 80 (by decide), cR x 0 (by decide)]
    exact q
  · -- rx_s
    intro s hs
    by_cases e : s = ns
    · subst e
      rw [sn.1, sn.2.1, sn.2.2.1, sn.2.2.2.1, sn.2.2.2.2.1, sn.2.2.2.2.2.1, sn.2.2.2.2.2.2.1, sn.2.2.2.2.2.2.2.2, sv_a (a := 155) (by decide), sv_a (a := 154) (by decide), z0.1, z0.2.1, z0.2.2, xc_n (by omega)]
      simp only [nT]
      have r1 : (adR R s h) (ci s 128) 1 = some (ci h 0) := by
        unfold adR; rw [upr_o (Or.inr (Ne.symm e127)), upr_s]
      rw [r1]
      have tn := adT_n (T := T) (ns := s) (kd := kd) (nm := nm) (mk := mk) (lf := lf) (now := S 130 36) (fb := fb)
      refine ⟨tn.1, rfl, tn.2.1, tn.2.2.1, tn.2.2.2.1, tn.2.2.2.2.1, tn.2.2.2.2.2.1, tn.2.2.2.2.2.2.1, fun c => ?_, fun c => ?_, tn.2.2.2.2.2.2.2.2.2.1, tn.2.2.2.2.2.2.2.2.2.2⟩
      · rw [tn.2.2.2.2.2.2.2.1]
        cases fb
        · rfl
        · exact absurd c (by decide)
      · cases fb
        · exact absurd c (by decide)
        · rw [tn.2.2.2.2.2.2.2.2.1 rfl, sn.2.2.2.2.2.2.2.1 rfl]
    · have q := hX.rx_s s (by omega)
      have f : ci s 128 ≠ ci ns 128 := fun c => e (ci_i.mp c)
      rw [adR_o f (ci_ne (by decide) (by decide) (by decide)), up_o (ci_ne (by decide) (by decide) (by decide)), adT_o f]
      simp only [sv_x (S := S) (a := 146) (ns := ns) (h := nI h) (kd := kd) (nm := nm) (mk := mk) (lf := lf) (fb := fb) (by decide) e, sv_x (S := S) (a := 147) (ns := ns) (h := nI h) (kd := kd) (nm := nm) (mk := mk) (lf := lf) (fb := fb) (by decide) e, sv_x (S := S) (a := 148) (ns := ns) (h := nI h) (kd := kd) (nm := nm) (mk := mk) (lf := lf) (fb := fb) (by decide) e, sv_x (S := S) (a := 149) (ns := ns) (h := nI h) (kd := kd) (nm := nm) (mk := mk) (lf := lf) (fb := fb) (by decide) e, sv_x (S := S) (a := 150) (ns := ns) (h := nI h) (kd := kd) (nm := nm) (mk := mk) (lf := lf) (fb := fb) (by decide) e, sv_x (S := S) (a := 151) (ns := ns) (h := nI h) (kd := kd) (nm := nm) (mk := mk) (lf := lf) (fb := fb) (by decide) e, sv_x (S := S) (a := 152) (ns := ns) (h := nI h) (kd := kd) (nm := nm) (mk := mk) (lf := lf) (fb := fb) (by decide) e, sv_x (S := S) (a := 153) (ns := ns) (h := nI h) (kd := kd) (nm := nm) (mk := mk) (lf := lf) (fb := fb) (by decide) e, sv_x (S := S) (a := 154) (ns := ns) (h := nI h) (kd := kd) (nm := nm) (mk := mk) (lf := lf) (fb := fb) (by decide) e, sv_x (S := S) (a := 155) (ns := ns) (h := nI h) (kd := kd) (nm := nm) (mk := mk) (lf := lf) (fb := fb) (by decide) e, sv_x (S := S) (a := 156) (ns := ns) (h := nI h) (kd := kd) (nm := nm) (mk := mk) (lf := lf) (fb := fb) (by decide) e]
      exact q
  · -- rx_r
    intro x hx s hs
    simp only [sv_a (S := S) (a := 158) (ns := ns) (h := nI h) (kd := kd) (nm := nm) (mk := mk) (lf := lf) (fb := fb) (by decide), sv_a (S := S) (a := 159) (ns := ns) (h := nI h) (kd := kd) (nm := nm) (mk := mk) (lf := lf) (fb := fb) (by decide), sv_a (S := S) (a := 160) (ns := ns) (h := nI h) (kd := kd) (nm := nm) (mk := mk) (lf := lf) (fb := fb) (by decide), sv_a (S := S) (a := 161) (ns := ns) (h := nI h) (kd := kd) (nm := nm) (mk := mk) (lf := lf) (fb := fb) (by decide), sv_a (S := S) (a := 162) (ns := ns) (h := nI h) (kd := kd) (nm := nm) (mk := mk) (lf := lf) (fb := fb) (by decide), sv_a (S := S) (a := 163) (ns := ns) (h := nI h) (kd := kd) (nm := nm) (mk := mk) (lf := lf) (fb := fb) (by decide)]
    rw [cT x 1 (by decide), cT x 2 (by decide), cT x 3 (by decide), cT x 4 (by decide), cT x 5 (by decide), cT x 9 (by decide), cT x 10 (by decide)]
    exact hX.rx_r x hx s hs
  · -- rx_a
    intro x hx y hy
    simp only [sv_a (S := S) (a := 164) (ns := ns) (h := nI h) (kd := kd) (nm := nm) (mk := mk) (lf := lf) (fb := fb) (by decide), sv_a (S := S) (a := 165) (ns := ns) (h := nI h) (kd := kd) (nm := nm) (mk := mk) (lf := lf) (fb := fb) (by decide), sv_a (S := S) (a := 166) (ns := ns) (h := nI h) (kd := kd) (nm := nm) (mk := mk) (lf := lf) (fb := fb) (by decide)]
    rw [cT x 6 (by decide), cT x 7 (by decide), cT x 8 (by decide)]
    exact hX.rx_a x hx y hy
  · intro x hx y hy
    rw [cT x 6 (by decide)]; exact hX.rx_b x hx y hy
  · -- rx_w
    intro x hx
    have q := hX.rx_w x hx
    rw [sv_a (a := 139) (by decide), sv_a (a := 136) (by decide), el3, el4]
    exact ⟨fun g => ⟨rowc_row (rws _) (q.1 g).1, rowc_row (rws _) (q.1 g).2⟩, fun c1 c2 => ⟨lrc x _ _ _ (lat_b hX hx c1).2.1 (q.2 c1 c2).1, lrc x _ _ _ (lat_b hX hx c1).2.2 (q.2 c1 c2).2⟩⟩
  · -- xm_wf
    obtain ⟨w1, w2, w3, w4, w5⟩ := hX.xm_wf
    refine ⟨w1, by omega, by rw [sv_g (by decide)]; exact w3, by rw [sv_26, w4]; exact nI_1 ns, fun s hs => ?_⟩
    by_cases e : s = ns
    · subst e; rw [sn.1]; exact xa_in_of hh (by omega)
    · rw [sv_x (by decide) e]; exact w5 s (by omega)
  · -- iv_h
    intro x hx
    have q := hX.iv_h x hx
    simp only [sv_a (S := S) (a := 131) (ns := ns) (h := nI h) (kd := kd) (nm := nm) (mk := mk) (lf := lf) (fb := fb) (by decide), sv_a (S := S) (a := 132) (ns := ns) (h := nI h) (kd := kd) (nm := nm) (mk := mk) (lf := lf) (fb := fb) (by decide), sv_a (S := S) (a := 133) (ns := ns) (h := nI h) (kd := kd) (nm := nm) (mk := mk) (lf := lf) (fb := fb) (by decide), sv_a (S := S) (a := 134) (ns := ns) (h := nI h) (kd := kd) (nm := nm) (mk := mk) (lf := lf) (fb := fb) (by decide), sv_a (S := S) (a := 135) (ns := ns) (h := nI h) (kd := kd) (nm := nm) (mk := mk) (lf := lf) (fb := fb) (by decide), sv_a (S := S) (a := 136) (ns := ns) (h := nI h) (kd := kd) (nm := nm) (mk := mk) (lf := lf) (fb := fb) (by decide), sv_a (S := S) (a := 137) (ns := ns) (h := nI h) (kd := kd) (nm := nm) (mk := mk) (lf := lf) (fb := fb) (by decide), sv_a (S := S) (a := 138) (ns := ns) (h := nI h) (kd := kd) (nm := nm) (mk := mk) (lf := lf) (fb := fb) (by decide), sv_a (S := S) (a := 139) (ns := ns) (h := nI h) (kd := kd) (nm := nm) (mk := mk) (lf := lf) (fb := fb) (by decide), sv_a (S := S) (a := 140) (ns := ns) (h := nI h) (kd := kd) (nm := nm) (mk := mk) (lf := lf) (fb := fb) (by decide), sv_a (S := S) (a := 141) (ns := ns) (h := nI h) (kd := kd) (nm := nm) (mk := mk) (lf := lf) (fb := fb) (by decide), sv_a (S := S) (a := 142) (ns := ns) (h := nI h) (kd := kd) (nm := nm) (mk := mk) (lf := lf) (fb := fb) (by decide), sv_a (S := S) (a := 143) (ns := ns) (h := nI h) (kd := kd) (nm := nm) (mk := mk) (lf := lf) (fb := fb) (by decide), sv_a (S := S) (a := 144) (ns := ns) (h := nI h) (kd := kd) (nm := nm) (mk := mk) (lf := lf) (fb := fb) (by decide)]
    exact q
  · -- iv_s
    intro s hs
    simp only [sv_a (S := S) (a := 133) (ns := ns) (h := nI h) (kd := kd) (nm := nm) (mk := mk) (lf := lf) (fb := fb) (by decide), sv_a (S := S) (a := 134) (ns := ns) (h := nI h) (kd := kd) (nm := nm) (mk := mk) (lf := lf) (fb := fb) (by decide), sv_a (S := S) (a := 137) (ns := ns) (h := nI h) (kd := kd) (nm := nm) (mk := mk) (lf := lf) (fb := fb) (by decide)]
    by_cases e : s = ns
    · subst e
      rw [sn.1, sn.2.1, sn.2.2.1, sn.2.2.2.2.1, sn.2.2.2.2.2.1, sn.2.2.2.2.2.2.1, sn.2.2.2.2.2.2.2.2, sv_a (a := 155) (by decide), z0.2.1, z0.2.2, xc_n (by omega)]
      cases fb
      · exact ⟨Or.inr (Or.inl rfl), fun c => absurd h7 c, k3, xa_in_of (j := 3) (by decide) (by decide), k2, Or.inl rfl, Or.inl rfl, k1, fun _ => k4 rfl⟩
      · exact ⟨Or.inr (Or.inr rfl), fun c => absurd h7 c, k3, xa_in_of (j := 0) (by decide) (by decide), k2, Or.inl rfl, Or.inr rfl, k1, fun c => absurd c (by decide)⟩
    · simp only [sv_x (S := S) (a := 146) (ns := ns) (h := nI h) (kd := kd) (nm := nm) (mk := mk) (lf := lf) (fb := fb) (by decide) e, sv_x (S := S) (a := 147) (ns := ns) (h := nI h) (kd := kd) (nm := nm) (mk := mk) (lf := lf) (fb := fb) (by decide) e, sv_x (S := S) (a := 148) (ns := ns) (h := nI h) (kd := kd) (nm := nm) (mk := mk) (lf := lf) (fb := fb) (by decide) e, sv_x (S := S) (a := 149) (ns := ns) (h := nI h) (kd := kd) (nm := nm) (mk := mk) (lf := lf) (fb := fb) (by decide) e, sv_x (S := S) (a := 150) (ns := ns) (h := nI h) (kd := kd) (nm := nm) (mk := mk) (lf := lf) (fb := fb) (by decide) e, sv_x (S := S) (a := 151) (ns := ns) (h := nI h) (kd := kd) (nm := nm) (mk := mk) (lf := lf) (fb := fb) (by decide) e, sv_x (S := S) (a := 152) (ns := ns) (h := nI h) (kd := kd) (nm := nm) (mk := mk) (lf := lf) (fb := fb) (by decide) e, sv_x (S := S) (a := 153) (ns := ns) (h := nI h) (kd := kd) (nm := nm) (mk := mk) (lf := lf) (fb := fb) (by decide) e, sv_x (S := S) (a := 154) (ns := ns) (h := nI h) (kd := kd) (nm := nm) (mk := mk) (lf := lf) (fb := fb) (by decide) e, sv_x (S := S) (a := 155) (ns := ns) (h := nI h) (kd := kd) (nm := nm) (mk := mk) (lf := lf) (fb := fb) (by decide) e, sv_x (S := S) (a := 156) (ns := ns) (h := nI h) (kd := kd) (nm := nm) (mk := mk) (lf := lf) (fb := fb) (by decide) e]
      exact hX.iv_s s (by omega)
  · -- iv_r
    intro x hx s hs
    simp only [sv_a (S := S) (a := 158) (ns := ns) (h := nI h) (kd := kd) (nm := nm) (mk := mk) (lf := lf) (fb := fb) (by decide), sv_a (S := S) (a := 159) (ns := ns) (h := nI h) (kd := kd) (nm := nm) (mk := mk) (lf := lf) (fb := fb) (by decide), sv_a (S := S) (a := 160) (ns := ns) (h := nI h) (kd := kd) (nm := nm) (mk := mk) (lf := lf) (fb := fb) (by decide), sv_a (S := S) (a := 161) (ns := ns) (h := nI h) (kd := kd) (nm := nm) (mk := mk) (lf := lf) (fb := fb) (by decide), sv_a (S := S) (a := 162) (ns := ns) (h := nI h) (kd := kd) (nm := nm) (mk := mk) (lf := lf) (fb := fb) (by decide), sv_a (S := S) (a := 163) (ns := ns) (h := nI h) (kd := kd) (nm := nm) (mk := mk) (lf := lf) (fb := fb) (by decide)]
    have q := hX.iv_r x hx s hs
    exact ⟨fun c => ⟨by have := (q.1 c).1; omega, (q.1 c).2⟩, q.2.1, fun c => ⟨by have := (q.2.2.1 c).1; omega, (q.2.2.1 c).2⟩, q.2.2.2⟩
  · -- iv_0
    refine ⟨?_, ?_, ?_, fun x a b => ⟨rowc_row (rws _) (i0w x a b).1, rowc_row (rws _) (i0w x a b).2⟩, fun s a b => ?_⟩
    · simp only [sv_a (S := S) (a := 137) (ns := ns) (h := nI h) (kd := kd) (nm := nm) (mk := mk) (lf := lf) (fb := fb) (by decide), sv_a (S := S) (a := 138) (ns := ns) (h := nI h) (kd := kd) (nm := nm) (mk := mk) (lf := lf) (fb := fb) (by decide), sv_a (S := S) (a := 139) (ns := ns) (h := nI h) (kd := kd) (nm := nm) (mk := mk) (lf := lf) (fb := fb) (by decide), sv_a (S := S) (a := 142) (ns := ns) (h := nI h) (kd := kd) (nm := nm) (mk := mk) (lf := lf) (fb := fb) (by decide), sv_a (S := S) (a := 143) (ns := ns) (h := nI h) (kd := kd) (nm := nm) (mk := mk) (lf := lf) (fb := fb) (by decide), sv_a (S := S) (a := 144) (ns := ns) (h := nI h) (kd := kd) (nm := nm) (mk := mk) (lf := lf) (fb := fb) (by decide)]; exact i0h
    · simp only [sv_a (S := S) (a := 158) (ns := ns) (h := nI h) (kd := kd) (nm := nm) (mk := mk) (lf := lf) (fb := fb) (by decide), sv_a (S := S) (a := 159) (ns := ns) (h := nI h) (kd := kd) (nm := nm) (mk := mk) (lf := lf) (fb := fb) (by decide), sv_a (S := S) (a := 160) (ns := ns) (h := nI h) (kd := kd) (nm := nm) (mk := mk) (lf := lf) (fb := fb) (by decide), sv_a (S := S) (a := 161) (ns := ns) (h := nI h) (kd := kd) (nm := nm) (mk := mk) (lf := lf) (fb := fb) (by decide), sv_a (S := S) (a := 162) (ns := ns) (h := nI h) (kd := kd) (nm := nm) (mk := mk) (lf := lf) (fb := fb) (by decide), sv_a (S := S) (a := 163) (ns := ns) (h := nI h) (kd := kd) (nm := nm) (mk := mk) (lf := lf) (fb := fb) (by decide)]; exact i0r
    · simp only [sv_a (S := S) (a := 164) (ns := ns) (h := nI h) (kd := kd) (nm := nm) (mk := mk) (lf := lf) (fb := fb) (by decide), sv_a (S := S) (a := 165) (ns := ns) (h := nI h) (kd := kd) (nm := nm) (mk := mk) (lf := lf) (fb := fb) (by decide), sv_a (S := S) (a := 166) (ns := ns) (h := nI h) (kd := kd) (nm := nm) (mk := mk) (lf := lf) (fb := fb) (by decide)]; exact i0a
    · rw [sv_a (a := 154) (by decide), sv_a (a := 155) (by decide), sv_x (a := 156) (by decide) (by omega)]; exact i0s s (by omega) b
  · unfold iv_g; rw [sv_g (by decide)]; exact hX.iv_g
  · intro x hx s hs
    rw [sv_a (a := 158) (by decide), sv_a (a := 162) (by decide), sv_g (by decide)]
    exact hX.iv_e x hx s hs
