theorem xa_dn {P : Nat → Prop} {N : Nat} (h : ∀ s, s ≤ N → (s < N → P (s + 1)) → P s) : ∀ s, s ≤ N → P s := by
  have key : ∀ n s, s + n = N → P s := by
    intro n
    induction n with
    | zero => intro s hs; exact h s (by omega) (fun q => by omega)
    | succ n ih => intro s hs; exact h s (by omega) (fun _ => ih (s + 1) (by omega))
  exact fun s hs => key (N - s) s (by omega)
theorem xa_fgk {E : xa_EV} {M : xa_MC} {Z : xa_ZC} {kc ks pc : Nat} {ls ls' : List (Option Value)} {st : List Value} {L : List Nat} {hi : xa_AH} {hr : xa_AR} (k : xa_W E M Z kc ks pc ls' st L hi hr) (h : xa_le ls' ls) : xa_W E M Z kc ks pc ls st L hi hr := xa_fg h k
theorem xa_no_s {p : Nat → Bool} {s : Nat} (h : ∀ i, i < s → p i = false) (hs : p s = false) : ∀ i, i < s + 1 → p i = false := fun i hi => by
  by_cases q : i = s
  · rw [q]; exact hs
  · exact h i (by omega)
theorem xa_ct_y {p : Nat → Bool} {s : Nat} (h : p s = true) : some (Value.int (nI (xa_ct p s) + 1)) = some (Value.int (nI (xa_ct p (s + 1)))) := by rw [xa_ct, if_pos h, nI_1]
theorem xa_ct_n {p : Nat → Bool} {s : Nat} (h : p s = false) : some (Value.int (nI (xa_ct p s) + 0)) = some (Value.int (nI (xa_ct p (s + 1)))) := by rw [xa_ct, h]; simp
def xm_ok (a k : Nat) : Bool := !(a == 146) && (!(a == 130) || (!(k == 14) && !(k == 26)))
theorem xm_wf_up {nh ns a k : Nat} {S : xa_AH} {v : Int32} (h : xm_wf nh ns S) (ho : xm_ok a k = true) : xm_wf nh ns (xa_up S a k v) := by
  simp only [xm_ok, Bool.and_eq_true, Bool.not_eq_true', beq_eq_false_iff_ne, Bool.or_eq_true] at ho
  obtain ⟨h1, h2, h3, h4, h5⟩ := h
  refine ⟨h1, h2, ?_, ?_, fun s hs => ?_⟩
  · rw [← h3]; unfold xa_up; rw [if_neg]; rintro ⟨rfl, rfl⟩; simp at ho
  · rw [← h4]; unfold xa_up; rw [if_neg]; rintro ⟨rfl, rfl⟩; simp at ho
  · have e : xa_up S a k v 146 s = S 146 s := by unfold xa_up; rw [if_neg]; rintro ⟨rfl, -⟩; exact ho.1 rfl
    rw [e]; exact h5 s hs
def xm_mp (S : xa_AH) (h : Int32) (s : Nat) : Bool := decide (S 146 s = h) && decide (S 151 s ≠ 0)
set_option maxHeartbeats 4000000 in
theorem lm_many (E : xa_EV) (S : xa_AH) {nh ns : Nat} (hW : xm_wf nh ns S) (h : Int32) : ∀ s, s ≤ ns → ∀ T, T = S → xa_W E mX8_many (xa_Z E mX8_many xm_L (xa_pR (.int (nI (xa_ct (xm_mp S h) ns))) S xm_R)) 0 0 4 [some (.ref 130), some (.int h), some (.int (nI (xa_ct (xm_mp S h) s))), some (.int (nI s))] [] xm_L T xm_R := by
  obtain ⟨w1, w2, w3, w4, w5⟩ := id hW
  refine xa_dn (fun s hs ih => ?_)
  intro T eT
  have w3 : T 130 14 = nI nh := by rw [eT]; exact w3
  have w4 : T 130 26 = nI ns := by rw [eT]; exact w4
  refine xa_iload_n (pc := 4) dX8_many_4 rfl ?_
  refine xa_aload_n (pc := 5) dX8_many_5 rfl ?_
  refine xa_getI (pc := 6) 8 26 lfX8_170 dX8_many_6 xm_o rfl rfl ?_
  refine xa_icmpN_ge (pc := 9) 45 s ns dX8_many_9 (by decide) rfl w4 (by omega) (by omega) (fun h9 => ?_) (fun h9 => ?_)
  · have g9 : ¬ (s < ns) := by omega
    refine xa_iload_n (pc := 45) dX8_many_45 rfl ?_
    have es : s = ns := by omega
    subst es; subst eT
    exact xa_zret dX8_many_46 rfl rfl ⟨rfl, rfl, rfl⟩
  · refine xa_iload_n (pc := 12) dX8_many_12 rfl ?_
    refine xa_aload_n (pc := 13) dX8_many_13 rfl ?_
    refine xa_getA (pc := 14) 8 15 146 lfX8_53 dX8_many_14 xm_o rfl rfl rfl ?_
    refine xa_iload_n (pc := 17) dX8_many_17 rfl ?_
    refine xa_ialdN (pc := 18) s dX8_many_18 xm_146 rfl rfl (by show _ < 32; omega) (by decide) ?_
    refine xa_iload_n (pc := 19) dX8_many_19 rfl ?_
    refine xa_icmp_ne (pc := 20) 36 dX8_many_20 (by decide) (fun h20 => ?_) (fun h20 => ?_)
    · refine xa_iconst (pc := 36) (v := 0) dX8_many_36 (by decide) ?_
      refine xa_iadd (pc := 37) dX8_many_37 ?_
      refine xa_istore_n (pc := 38) dX8_many_38 (by decide) ?_
      refine xa_iinc (pc := 39) (v := nI (s + 1)) dX8_many_39 rfl (by decide) (nI_1 _) ?_
      refine xa_goto (pc := 42) (tgt := 4) dX8_many_42 (by decide) ?_
      subst eT; exact xa_fgk (ih (by omega) _ rfl) (And.intro rfl (And.intro rfl (And.intro (by first | exact xa_ct_y (by simp [xm_mp, *]) | exact xa_ct_n (by simp [xm_mp, *])) (And.intro rfl trivial))))
    · refine xa_aload_n (pc := 23) dX8_many_23 rfl ?_
      refine xa_getA (pc := 24) 8 20 151 lfX8_68 dX8_many_24 xm_o rfl rfl rfl ?_
      refine xa_iload_n (pc := 27) dX8_many_27 rfl ?_
      refine xa_ialdN (pc := 28) s dX8_many_28 xm_151 rfl rfl (by show _ < 32; omega) (by decide) ?_
      refine xa_if_eq (pc := 29) 36 dX8_many_29 (by decide) (fun h29 => ?_) (fun h29 => ?_)
      · refine xa_iconst (pc := 36) (v := 0) dX8_many_36 (by decide) ?_
        refine xa_iadd (pc := 37) dX8_many_37 ?_
        refine xa_istore_n (pc := 38) dX8_many_38 (by decide) ?_
        refine xa_iinc (pc := 39) (v := nI (s + 1)) dX8_many_39 rfl (by decide) (nI_1 _) ?_
        refine xa_goto (pc := 42) (tgt := 4) dX8_many_42 (by decide) ?_
        subst eT; exact xa_fgk (ih (by omega) _ rfl) (And.intro rfl (And.intro rfl (And.intro (by first | exact xa_ct_y (by simp [xm_mp, *]) | exact xa_ct_n (by simp [xm_mp, *])) (And.intro rfl trivial))))
      · refine xa_iconst (pc := 32) (v := 1) dX8_many_32 (by decide) ?_
        refine xa_goto (pc := 33) (tgt := 37) dX8_many_33 (by decide) ?_
        refine xa_iadd (pc := 37) dX8_many_37 ?_
        refine xa_istore_n (pc := 38) dX8_many_38 (by decide) ?_
        refine xa_iinc (pc := 39) (v := nI (s + 1)) dX8_many_39 rfl (by decide) (nI_1 _) ?_
        refine xa_goto (pc := 42) (tgt := 4) dX8_many_42 (by decide) ?_
        subst eT; exact xa_fgk (ih (by omega) _ rfl) (And.intro rfl (And.intro rfl (And.intro (by first | exact xa_ct_y (by simp [xm_mp, *]) | exact xa_ct_n (by simp [xm_mp, *])) (And.intro rfl trivial))))
set_option maxHeartbeats 4000000 in
theorem cm_many (E : xa_EV) (S : xa_AH) {nh ns : Nat} (hW : xm_wf nh ns S) (h : Int32) : xa_Ct E mX8_many [.ref 130, .int h] xm_L S xm_R (xa_pR (.int (nI (xa_ct (xm_mp S h) ns))) S xm_R) := by
  refine xa_Ct.of [some (.ref 130), some (.int h), none, none] rfl (Nat.le_of_ble_eq_true rfl) (by simp [Value.category]) rfl ?_
  obtain ⟨w1, w2, w3, w4, w5⟩ := id hW
  refine xa_iconst (pc := 0) (v := 0) dX8_many_0 (by decide) ?_
  refine xa_istore_n (pc := 1) dX8_many_1 (by decide) ?_
  refine xa_iconst (pc := 2) (v := 0) dX8_many_2 (by decide) ?_
  refine xa_istore_n (pc := 3) dX8_many_3 (by decide) ?_
  exact lm_many E S hW h 0 (Nat.zero_le _) _ rfl
def xm_np (S : xa_AH) (h n b : Int32) (s : Nat) : Bool := !decide (nI s = b) && (decide (S 146 s = h) && (decide (S 151 s ≠ 0) && decide (S 148 s = n)))
set_option maxHeartbeats 4000000 in
theorem lm_isNamed (E : xa_EV) (S : xa_AH) {nh ns : Nat} (hW : xm_wf nh ns S) (h n b : Int32) : ∀ s, s ≤ ns → (∀ i, i < s → xm_np S h n b i = false) → ∀ T, T = S → xa_W E mX8_isNamed (xa_Z E mX8_isNamed xm_L (xa_pR (.int (xa_b (xa_any (xm_np S h n b) ns))) S xm_R)) 0 0 3 [some (.ref 130), some (.int h), some (.int n), some (.int b), some (.int (nI s))] [] xm_L T xm_R := by
  obtain ⟨w1, w2, w3, w4, w5⟩ := id hW
  refine xa_dn (fun s hs ih => ?_)
  intro hno T eT
  have w3 : T 130 14 = nI nh := by rw [eT]; exact w3
  have w4 : T 130 26 = nI ns := by rw [eT]; exact w4
  refine xa_iload (pc := 3) dX8_isNamed_3 rfl ?_
  refine xa_aload_n (pc := 5) dX8_isNamed_5 rfl ?_
  refine xa_getI (pc := 6) 8 26 lfX8_170 dX8_isNamed_6 xm_o rfl rfl ?_
  refine xa_icmpN_ge (pc := 9) 58 s ns dX8_isNamed_9 (by decide) rfl w4 (by omega) (by omega) (fun h9 => ?_) (fun h9 => ?_)
  · have g9 : ¬ (s < ns) := by omega
    refine xa_iconst (pc := 58) (v := 0) dX8_isNamed_58 (by decide) ?_
    have es : s = ns := by omega
    subst es; subst eT
    exact xa_zret dX8_isNamed_59 rfl (by decide) ⟨xa_r0 (xa_any_no.mpr hno), rfl, rfl⟩
  · refine xa_iload (pc := 12) dX8_isNamed_12 rfl ?_
    refine xa_iload_n (pc := 14) dX8_isNamed_14 rfl ?_
    refine xa_icmp_eq (pc := 15) 52 dX8_isNamed_15 (by decide) (fun h15 => ?_) (fun h15 => ?_)
    · refine xa_iinc (pc := 52) (v := nI (s + 1)) dX8_isNamed_52 rfl (by decide) (nI_1 _) ?_
      refine xa_goto (pc := 55) (tgt := 3) dX8_isNamed_55 (by decide) ?_
      subst eT; exact xa_fgk (ih (by omega) (xa_no_s hno (by simp [xm_np, *])) _ rfl) (And.intro rfl (And.intro rfl (And.intro rfl (And.intro rfl (And.intro rfl trivial)))))
    · refine xa_aload_n (pc := 18) dX8_isNamed_18 rfl ?_
      refine xa_getA (pc := 19) 8 15 146 lfX8_53 dX8_isNamed_19 xm_o rfl rfl rfl ?_
      refine xa_iload (pc := 22) dX8_isNamed_22 rfl ?_
      refine xa_ialdN (pc := 24) s dX8_isNamed_24 xm_146 rfl rfl (by show _ < 32; omega) (by decide) ?_
      refine xa_iload_n (pc := 25) dX8_isNamed_25 rfl ?_
      refine xa_icmp_ne (pc := 26) 52 dX8_isNamed_26 (by decide) (fun h26 => ?_) (fun h26 => ?_)
      · refine xa_iinc (pc := 52) (v := nI (s + 1)) dX8_isNamed_52 rfl (by decide) (nI_1 _) ?_
        refine xa_goto (pc := 55) (tgt := 3) dX8_isNamed_55 (by decide) ?_
        subst eT; exact xa_fgk (ih (by omega) (xa_no_s hno (by simp [xm_np, *])) _ rfl) (And.intro rfl (And.intro rfl (And.intro rfl (And.intro rfl (And.intro rfl trivial)))))
      · refine xa_aload_n (pc := 29) dX8_isNamed_29 rfl ?_
        refine xa_getA (pc := 30) 8 20 151 lfX8_68 dX8_isNamed_30 xm_o rfl rfl rfl ?_
        refine xa_iload (pc := 33) dX8_isNamed_33 rfl ?_
        refine xa_ialdN (pc := 35) s dX8_isNamed_35 xm_151 rfl rfl (by show _ < 32; omega) (by decide) ?_
        refine xa_if_eq (pc := 36) 52 dX8_isNamed_36 (by decide) (fun h36 => ?_) (fun h36 => ?_)
        · refine xa_iinc (pc := 52) (v := nI (s + 1)) dX8_isNamed_52 rfl (by decide) (nI_1 _) ?_
          refine xa_goto (pc := 55) (tgt := 3) dX8_isNamed_55 (by decide) ?_
          subst eT; exact xa_fgk (ih (by omega) (xa_no_s hno (by simp [xm_np, *])) _ rfl) (And.intro rfl (And.intro rfl (And.intro rfl (And.intro rfl (And.intro rfl trivial)))))
        · refine xa_aload_n (pc := 39) dX8_isNamed_39 rfl ?_
          refine xa_getA (pc := 40) 8 17 148 lfX8_59 dX8_isNamed_40 xm_o rfl rfl rfl ?_
          refine xa_iload (pc := 43) dX8_isNamed_43 rfl ?_
          refine xa_ialdN (pc := 45) s dX8_isNamed_45 xm_148 rfl rfl (by show _ < 32; omega) (by decide) ?_
          refine xa_iload_n (pc := 46) dX8_isNamed_46 rfl ?_
          refine xa_icmp_ne (pc := 47) 52 dX8_isNamed_47 (by decide) (fun h47 => ?_) (fun h47 => ?_)
          · refine xa_iinc (pc := 52) (v := nI (s + 1)) dX8_isNamed_52 rfl (by decide) (nI_1 _) ?_
            refine xa_goto (pc := 55) (tgt := 3) dX8_isNamed_55 (by decide) ?_
            subst eT; exact xa_fgk (ih (by omega) (xa_no_s hno (by simp [xm_np, *])) _ rfl) (And.intro rfl (And.intro rfl (And.intro rfl (And.intro rfl (And.intro rfl trivial)))))
          · refine xa_iconst (pc := 50) (v := 1) dX8_isNamed_50 (by decide) ?_
            subst eT
            exact xa_zret dX8_isNamed_51 rfl (by decide) ⟨xa_r1 (xa_any_yes (i := s) (by omega) (by simp [xm_np, *])), rfl, rfl⟩
set_option maxHeartbeats 4000000 in
theorem cm_isNamed (E : xa_EV) (S : xa_AH) {nh ns : Nat} (hW : xm_wf nh ns S) (h n b : Int32) : xa_Ct E mX8_isNamed [.ref 130, .int h, .int n, .int b] xm_L S xm_R (xa_pR (.int (xa_b (xa_any (xm_np S h n b) ns))) S xm_R) := by
  refine xa_Ct.of [some (.ref 130), some (.int h), some (.int n), some (.int b), none] rfl (Nat.le_of_ble_eq_true rfl) (by simp [Value.category]) rfl ?_
  obtain ⟨w1, w2, w3, w4, w5⟩ := id hW
  refine xa_iconst (pc := 0) (v := 0) dX8_isNamed_0 (by decide) ?_
  refine xa_istore (pc := 1) dX8_isNamed_1 (by decide) ?_
  exact lm_isNamed E S hW h n b 0 (Nat.zero_le _) (fun i hi => absurd hi (Nat.not_lt_zero i)) _ rfl
