theorem xm_wf_goes {nh ns s : Nat} {b : Int32} {S : xa_AH} (hw : xm_wf nh ns S) : xm_wf nh ns (xm_goes S s b) := by
  unfold xm_goes
  have h1 : xm_wf nh ns (if S 151 s = 2 ∧ ¬ b = 0 then xa_up S 155 s 1 else S) := by
    split
    · exact xm_wf_up hw rfl
    · exact hw
  exact xm_wf_up (xm_wf_up (xm_wf_up h1 rfl) rfl) rfl
theorem xm_nm_goes {nh s : Nat} {b : Int32} {S : xa_AH} (hw : xm_nm nh S) : xm_nm nh (xm_goes S s b) := by
  unfold xm_goes
  have h1 : xm_nm nh (if S 151 s = 2 ∧ ¬ b = 0 then xa_up S 155 s 1 else S) := by
    split
    · exact xm_nm_up hw rfl
    · exact hw
  exact xm_nm_up (xm_nm_up (xm_nm_up h1 rfl) rfl) rfl
def xm_fa1 (h : Int32) (s : Nat) (S : xa_AH) : xa_AH := if S 146 s = h then xa_up (xm_goes S s 0) 155 s 0 else S
def xm_fall (nh ns : Nat) (S : xa_AH) (h : Int32) : Bool × xa_AH := if (xm_isH nh h && decide (¬ S 136 (xc h) = 0)) = true then (true, xm_gone (xc h) (xa_lp (xm_fa1 h) ns S)) else (false, S)
theorem xm_wf_fa1 {nh ns x : Nat} {h : Int32} {S : xa_AH} (hw : xm_wf nh ns S) : xm_wf nh ns (xm_fa1 h x S) := by
  unfold xm_fa1; split
  · exact xm_wf_up (xm_wf_goes hw) rfl
  · exact hw
theorem xm_nm_fa1 {nh x : Nat} {h : Int32} {S : xa_AH} (hw : xm_nm nh S) : xm_nm nh (xm_fa1 h x S) := by
  unfold xm_fa1; split
  · exact xm_nm_up (xm_nm_goes hw) rfl
  · exact hw
set_option maxHeartbeats 4000000 in
theorem lm_fall (E : xa_EV) (S : xa_AH) {nh ns : Nat} (hW0 : xm_wf nh ns S) (hN0 : xm_nm nh S) {h : Int32} (hv1 : vp_in h nh) (hb1 : xc h < nh) : ∀ x, x ≤ ns → ∀ T, T = xa_lp (xm_fa1 h) x S → xa_W E mX8_fall (xa_Z E mX8_fall xm_L (xa_pR (.int 1) (xm_gone (xc h) (xa_lp (xm_fa1 h) ns S)) xm_R)) 0 0 21 [some (.ref 130), some (.int h), some (.int (nI x))] [] xm_L T xm_R := by
  refine xa_dn (fun x hxl ih => ?_)
  intro T eT
  have hW : xm_wf nh ns T := by rw [eT]; exact xa_lp_inv hW0 (fun i U _ hU => xm_wf_fa1 hU)
  have hN : xm_nm nh T := by rw [eT]; exact xa_lp_inv hN0 (fun i U _ hU => xm_nm_fa1 hU)
  obtain ⟨w1, w2, w3, w4, w5⟩ := id hW
  refine xa_iload_n (pc := 21) dX8_fall_21 rfl ?_
  refine xa_aload_n (pc := 22) dX8_fall_22 rfl ?_
  refine xa_getI (pc := 23) 8 26 lfX8_170 dX8_fall_23 xm_o rfl rfl ?_
  refine xa_icmpN_ge (pc := 26) 61 x ns dX8_fall_26 (by decide) rfl w4 (by omega) (by omega) (fun h26 => ?_) (fun h26 => ?_)
  · have g26 : ¬ (x < ns) := by omega
    refine xa_aload_n (pc := 61) dX8_fall_61 rfl ?_
    refine xa_iload_n (pc := 62) dX8_fall_62 rfl ?_
    refine xa_callV (pc := 63) xm_o rfl rfl lcX8_218 dX8_fall_63 (cm_isGone E _ (h := (xc h)) (xa_in_eq hv1) (by omega)) rfl rfl (by decide) (Nat.le_of_ble_eq_true rfl) (by decide) ?_
    rintro _ _ _ ⟨rfl, rfl, rfl⟩
    refine xa_iconst (pc := 66) (v := 1) dX8_fall_66 (by decide) ?_
    have ex9 : x = ns := by omega
    subst ex9
    exact xa_zret dX8_fall_67 rfl (by decide) ⟨rfl, by rw [eT], rfl⟩
  · refine xa_aload_n (pc := 29) dX8_fall_29 rfl ?_
    refine xa_getA (pc := 30) 8 15 146 lfX8_53 dX8_fall_30 xm_o rfl rfl rfl ?_
    refine xa_iload_n (pc := 33) dX8_fall_33 rfl ?_
    refine xa_ialdN (pc := 34) x dX8_fall_34 xm_146 rfl rfl (by show _ < 32; omega) (by decide) ?_
    refine xa_iload_n (pc := 35) dX8_fall_35 rfl ?_
    refine xa_icmp_eq (pc := 36) 42 dX8_fall_36 (by decide) (fun h36 => ?_) (fun h36 => ?_)
    · refine xa_aload_n (pc := 42) dX8_fall_42 rfl ?_
      refine xa_iload_n (pc := 43) dX8_fall_43 rfl ?_
      refine xa_iconst (pc := 44) (v := 0) dX8_fall_44 (by decide) ?_
      refine xa_callV (pc := 45) xm_o rfl rfl lcX8_200 dX8_fall_45 (cm_goes E _ (s := x) rfl (by omega) _) rfl rfl (by decide) (Nat.le_of_ble_eq_true rfl) (by decide) ?_
      rintro _ _ _ ⟨rfl, rfl, rfl⟩
      refine xa_aload_n (pc := 48) dX8_fall_48 rfl ?_
      refine xa_getA (pc := 49) 8 24 155 lfX8_80 dX8_fall_49 xm_o rfl rfl rfl ?_
      refine xa_iload_n (pc := 52) dX8_fall_52 rfl ?_
      refine xa_iconst (pc := 53) (v := 0) dX8_fall_53 (by decide) ?_
      refine xa_zastN (pc := 54) x dX8_fall_54 xm_155 rfl rfl (by show _ < 32; omega) (by decide) rfl ?_
      refine xa_iinc (pc := 55) (v := nI (x + 1)) dX8_fall_55 rfl (by decide) (nI_1 _) ?_
      refine xa_goto (pc := 58) (tgt := 21) dX8_fall_58 (by decide) ?_
      exact xa_fgk (ih (by omega) _ (by rw [xa_lp, ← eT]; simp [xm_fa1, h26, h36])) (And.intro rfl (And.intro rfl (And.intro rfl trivial)))
    · refine xa_goto (pc := 39) (tgt := 55) dX8_fall_39 (by decide) ?_
      refine xa_iinc (pc := 55) (v := nI (x + 1)) dX8_fall_55 rfl (by decide) (nI_1 _) ?_
      refine xa_goto (pc := 58) (tgt := 21) dX8_fall_58 (by decide) ?_
      exact xa_fgk (ih (by omega) _ (by rw [xa_lp, ← eT]; simp [xm_fa1, h26, h36])) (And.intro rfl (And.intro rfl (And.intro rfl trivial)))
set_option maxHeartbeats 4000000 in
theorem cm_fall (E : xa_EV) (S : xa_AH) {nh ns : Nat} (hW : xm_wf nh ns S) (hN : xm_nm nh S) (h : Int32) : xa_Ct E mX8_fall [.ref 130, .int h] xm_L S xm_R (xa_pR (.int (xa_b (xm_fall nh ns S h).1)) (xm_fall nh ns S h).2 xm_R) := by
  refine xa_Ct.of [some (.ref 130), some (.int h), none] rfl (Nat.le_of_ble_eq_true rfl) (by simp [Value.category]) rfl ?_
  obtain ⟨w1, w2, w3, w4, w5⟩ := id hW
  refine xa_aload_n (pc := 0) dX8_fall_0 rfl ?_
  refine xa_iload_n (pc := 1) dX8_fall_1 rfl ?_
  refine xa_callV (pc := 2) xm_o rfl rfl lcX8_163 dX8_fall_2 (cm_isHost E _ hW _) rfl rfl (by decide) (Nat.le_of_ble_eq_true rfl) (by decide) ?_
  rintro _ _ _ ⟨rfl, rfl, rfl⟩
  refine xa_if_eq (pc := 5) 17 dX8_fall_5 (by decide) (fun h5 => ?_) (fun h5 => ?_)
  · have h5 := xa_b_0.mp h5
    refine xa_iconst (pc := 17) (v := 0) dX8_fall_17 (by decide) ?_
    rw [show xm_fall nh ns S h = _ from if_neg (by simp [h5])]
    exact xa_zret dX8_fall_18 rfl (by decide) ⟨rfl, rfl, rfl⟩
  · have h5 := xa_b_n0.mp h5
    have hv1 := (xm_isH_t (by omega)).mp h5
    have hb1 : xc h < nh := xa_in_lt hv1
    refine xa_aload_n (pc := 8) dX8_fall_8 rfl ?_
    refine xa_getA (pc := 9) 8 5 136 lfX8_25 dX8_fall_9 xm_o rfl rfl rfl ?_
    refine xa_iload_n (pc := 12) dX8_fall_12 rfl ?_
    refine xa_ialdN (pc := 13) (xc h) dX8_fall_13 xm_136 rfl (xa_in_eq hv1) (by show _ < 12; omega) (by decide) ?_
    refine xa_if_ne (pc := 14) 19 dX8_fall_14 (by decide) (fun h14 => ?_) (fun h14 => ?_)
    · refine xa_iconst (pc := 19) (v := 0) dX8_fall_19 (by decide) ?_
      refine xa_istore_n (pc := 20) dX8_fall_20 (by decide) ?_
      rw [show xm_fall nh ns S h = _ from if_pos (by simp [h5, h14])]
      exact lm_fall E S hW hN hv1 hb1 0 (Nat.zero_le _) _ rfl
    · refine xa_iconst (pc := 17) (v := 0) dX8_fall_17 (by decide) ?_
      rw [show xm_fall nh ns S h = _ from if_neg (by simp [h5, h14])]
      exact xa_zret dX8_fall_18 rfl (by decide) ⟨rfl, rfl, rfl⟩
def xm_le1 (h : Int32) (s : Nat) (S : xa_AH) : xa_AH := if S 146 s = h ∧ ¬ S 151 s = 0 then xm_goes S s 1 else S
def xm_le2 (h : Int32) (x : Nat) (S : xa_AH) : xa_AH := if S 136 x = 1 ∧ S 141 x = h then (xa_up (xm_wakes S x) 130 42 (S 130 42 + 1)) else S
def xm_leave (nh ns : Nat) (S : xa_AH) (h : Int32) : Bool × xa_AH := if xm_up nh S h = true then (true, xa_lp (xm_le2 h) nh (xa_lp (xm_le1 h) ns (xa_up S 137 (xc h) 1))) else (false, S)
theorem xm_wf_le1 {nh ns x : Nat} {h : Int32} {S : xa_AH} (hw : xm_wf nh ns S) : xm_wf nh ns (xm_le1 h x S) := by
  unfold xm_le1; split
  · exact xm_wf_goes hw
  · exact hw
theorem xm_wf_le2 {nh ns x : Nat} {h : Int32} {S : xa_AH} (hw : xm_wf nh ns S) : xm_wf nh ns (xm_le2 h x S) := by
  unfold xm_le2; split
  · unfold xm_wakes
    exact xm_wf_up (xm_wf_up (xm_wf_up hw rfl) rfl) rfl
  · exact hw
theorem xm_nm_le1 {nh x : Nat} {h : Int32} {S : xa_AH} (hw : xm_nm nh S) : xm_nm nh (xm_le1 h x S) := by
  unfold xm_le1; split
  · exact xm_nm_goes hw
  · exact hw
theorem xm_nm_le2 {nh x : Nat} {h : Int32} {S : xa_AH} (hw : xm_nm nh S) : xm_nm nh (xm_le2 h x S) := by
  unfold xm_le2; split
  · unfold xm_wakes
    exact xm_nm_up (xm_nm_up (xm_nm_up hw rfl) rfl) rfl
  · exact hw
set_option maxHeartbeats 4000000 in
theorem lm_leave60 (E : xa_EV) (S : xa_AH) {nh ns : Nat} (hW0 : xm_wf nh ns S) (hN0 : xm_nm nh S) {h : Int32} (hv1 : vp_in h nh) (hb1 : xc h < nh) : ∀ x, x ≤ nh → ∀ T, T = xa_lp (xm_le2 h) x S → xa_W E mX8_leave (xa_Z E mX8_leave xm_L (xa_pR (.int 1) (xa_lp (xm_le2 h) nh S) xm_R)) 0 0 60 [some (.ref 130), some (.int h), some (.int (nI x))] [] xm_L T xm_R := by
  refine xa_dn (fun x hxl ih => ?_)
  intro T eT
  have hW : xm_wf nh ns T := by rw [eT]; exact xa_lp_inv hW0 (fun i U _ hU => xm_wf_le2 hU)
  have hN : xm_nm nh T := by rw [eT]; exact xa_lp_inv hN0 (fun i U _ hU => xm_nm_le2 hU)
  obtain ⟨w1, w2, w3, w4, w5⟩ := id hW
  refine xa_iload_n (pc := 60) dX8_leave_60 rfl ?_
  refine xa_aload_n (pc := 61) dX8_leave_61 rfl ?_
  refine xa_getI (pc := 62) 8 14 lfX8_155 dX8_leave_62 xm_o rfl rfl ?_
  refine xa_icmpN_ge (pc := 65) 112 x nh dX8_leave_65 (by decide) rfl w3 (by omega) (by omega) (fun h65 => ?_) (fun h65 => ?_)
  · have g65 : ¬ (x < nh) := by omega
    refine xa_iconst (pc := 112) (v := 1) dX8_leave_112 (by decide) ?_
    have ex9 : x = nh := by omega
    subst ex9
    exact xa_zret dX8_leave_113 rfl (by decide) ⟨rfl, eT.symm, rfl⟩
  · refine xa_aload_n (pc := 68) dX8_leave_68 rfl ?_
    refine xa_getA (pc := 69) 8 5 136 lfX8_25 dX8_leave_69 xm_o rfl rfl rfl ?_
    refine xa_iload_n (pc := 72) dX8_leave_72 rfl ?_
    refine xa_ialdN (pc := 73) x dX8_leave_73 xm_136 rfl rfl (by show _ < 12; omega) (by decide) ?_
    refine xa_iconst (pc := 74) (v := 1) dX8_leave_74 (by decide) ?_
    refine xa_icmp_ne (pc := 75) 106 dX8_leave_75 (by decide) (fun h75 => ?_) (fun h75 => ?_)
    · refine xa_iinc (pc := 106) (v := nI (x + 1)) dX8_leave_106 rfl (by decide) (nI_1 _) ?_
      refine xa_goto (pc := 109) (tgt := 60) dX8_leave_109 (by decide) ?_
      exact xa_fgk (ih (by omega) _ (by rw [xa_lp, ← eT]; simp [xm_le2, h65, h75] <;> rfl)) (And.intro rfl (And.intro rfl (And.intro rfl trivial)))
    · refine xa_aload_n (pc := 78) dX8_leave_78 rfl ?_
      refine xa_getA (pc := 79) 8 10 141 lfX8_41 dX8_leave_79 xm_o rfl rfl rfl ?_
      refine xa_iload_n (pc := 82) dX8_leave_82 rfl ?_
      refine xa_ialdN (pc := 83) x dX8_leave_83 xm_141 rfl rfl (by show _ < 12; omega) (by decide) ?_
      refine xa_iload_n (pc := 84) dX8_leave_84 rfl ?_
      refine xa_icmp_eq (pc := 85) 91 dX8_leave_85 (by decide) (fun h85 => ?_) (fun h85 => ?_)
      · refine xa_aload_n (pc := 91) dX8_leave_91 rfl ?_
        refine xa_iload_n (pc := 92) dX8_leave_92 rfl ?_
        refine xa_callV (pc := 93) xm_o rfl rfl lcX8_208 dX8_leave_93 (cm_wakes E _ (h := x) rfl (by omega)) rfl rfl (by decide) (Nat.le_of_ble_eq_true rfl) (by decide) ?_
        rintro _ _ _ ⟨rfl, rfl, rfl⟩
        refine xa_aload_n (pc := 96) dX8_leave_96 rfl ?_
        refine xa_dup (pc := 97) dX8_leave_97 rfl ?_
        refine xa_getI (pc := 98) 8 42 lfX8_221 dX8_leave_98 xm_o rfl rfl ?_
        refine xa_iconst (pc := 101) (v := 1) dX8_leave_101 (by decide) ?_
        refine xa_iadd (pc := 102) dX8_leave_102 ?_
        refine xa_putI (pc := 103) 8 42 lpX8_221 dX8_leave_103 xm_o rfl rfl rfl rfl ?_
        refine xa_iinc (pc := 106) (v := nI (x + 1)) dX8_leave_106 rfl (by decide) (nI_1 _) ?_
        refine xa_goto (pc := 109) (tgt := 60) dX8_leave_109 (by decide) ?_
        exact xa_fgk (ih (by omega) _ (by rw [xa_lp, ← eT]; simp [xm_le2, h65, h75, h85] <;> rfl)) (And.intro rfl (And.intro rfl (And.intro rfl trivial)))
      · refine xa_goto (pc := 88) (tgt := 106) dX8_leave_88 (by decide) ?_
        refine xa_iinc (pc := 106) (v := nI (x + 1)) dX8_leave_106 rfl (by decide) (nI_1 _) ?_
        refine xa_goto (pc := 109) (tgt := 60) dX8_leave_109 (by decide) ?_
        exact xa_fgk (ih (by omega) _ (by rw [xa_lp, ← eT]; simp [xm_le2, h65, h75, h85] <;> rfl)) (And.intro rfl (And.intro rfl (And.intro rfl trivial)))
set_option maxHeartbeats 4000000 in
theorem lm_leave19 (E : xa_EV) (S : xa_AH) {nh ns : Nat} (hW0 : xm_wf nh ns S) (hN0 : xm_nm nh S) {h : Int32} (hv1 : vp_in h nh) (hb1 : xc h < nh) : ∀ x, x ≤ ns → ∀ T, T = xa_lp (xm_le1 h) x S → xa_W E mX8_leave (xa_Z E mX8_leave xm_L (xa_pR (.int 1) (xa_lp (xm_le2 h) nh (xa_lp (xm_le1 h) ns S)) xm_R)) 0 0 19 [some (.ref 130), some (.int h), some (.int (nI x))] [] xm_L T xm_R := by
  refine xa_dn (fun x hxl ih => ?_)
  intro T eT
  have hW : xm_wf nh ns T := by rw [eT]; exact xa_lp_inv hW0 (fun i U _ hU => xm_wf_le1 hU)
  have hN : xm_nm nh T := by rw [eT]; exact xa_lp_inv hN0 (fun i U _ hU => xm_nm_le1 hU)
  obtain ⟨w1, w2, w3, w4, w5⟩ := id hW
  refine xa_iload_n (pc := 19) dX8_leave_19 rfl ?_
  refine xa_aload_n (pc := 20) dX8_leave_20 rfl ?_
  refine xa_getI (pc := 21) 8 26 lfX8_170 dX8_leave_21 xm_o rfl rfl ?_
  refine xa_icmpN_ge (pc := 24) 58 x ns dX8_leave_24 (by decide) rfl w4 (by omega) (by omega) (fun h24 => ?_) (fun h24 => ?_)
  · have g24 : ¬ (x < ns) := by omega
    refine xa_iconst (pc := 58) (v := 0) dX8_leave_58 (by decide) ?_
    refine xa_istore_n (pc := 59) dX8_leave_59 (by decide) ?_
    have ex9 : x = ns := by omega
    subst ex9
    rw [← eT]
    exact lm_leave60 E T hW hN hv1 hb1 0 (Nat.zero_le _) T rfl
  · refine xa_aload_n (pc := 27) dX8_leave_27 rfl ?_
    refine xa_getA (pc := 28) 8 15 146 lfX8_53 dX8_leave_28 xm_o rfl rfl rfl ?_
    refine xa_iload_n (pc := 31) dX8_leave_31 rfl ?_
    refine xa_ialdN (pc := 32) x dX8_leave_32 xm_146 rfl rfl (by show _ < 32; omega) (by decide) ?_
    refine xa_iload_n (pc := 33) dX8_leave_33 rfl ?_
    refine xa_icmp_ne (pc := 34) 52 dX8_leave_34 (by decide) (fun h34 => ?_) (fun h34 => ?_)
    · refine xa_iinc (pc := 52) (v := nI (x + 1)) dX8_leave_52 rfl (by decide) (nI_1 _) ?_
      refine xa_goto (pc := 55) (tgt := 19) dX8_leave_55 (by decide) ?_
      exact xa_fgk (ih (by omega) _ (by rw [xa_lp, ← eT]; simp [xm_le1, h24, h34])) (And.intro rfl (And.intro rfl (And.intro rfl trivial)))
    · refine xa_aload_n (pc := 37) dX8_leave_37 rfl ?_
      refine xa_getA (pc := 38) 8 20 151 lfX8_68 dX8_leave_38 xm_o rfl rfl rfl ?_
      refine xa_iload_n (pc := 41) dX8_leave_41 rfl ?_
      refine xa_ialdN (pc := 42) x dX8_leave_42 xm_151 rfl rfl (by show _ < 32; omega) (by decide) ?_
      refine xa_if_eq (pc := 43) 52 dX8_leave_43 (by decide) (fun h43 => ?_) (fun h43 => ?_)
      · refine xa_iinc (pc := 52) (v := nI (x + 1)) dX8_leave_52 rfl (by decide) (nI_1 _) ?_
        refine xa_goto (pc := 55) (tgt := 19) dX8_leave_55 (by decide) ?_
        exact xa_fgk (ih (by omega) _ (by rw [xa_lp, ← eT]; simp [xm_le1, h24, h34, h43])) (And.intro rfl (And.intro rfl (And.intro rfl trivial)))
      · refine xa_aload_n (pc := 46) dX8_leave_46 rfl ?_
        refine xa_iload_n (pc := 47) dX8_leave_47 rfl ?_
        refine xa_iconst (pc := 48) (v := 1) dX8_leave_48 (by decide) ?_
        refine xa_callV (pc := 49) xm_o rfl rfl lcX8_200 dX8_leave_49 (cm_goes E _ (s := x) rfl (by omega) _) rfl rfl (by decide) (Nat.le_of_ble_eq_true rfl) (by decide) ?_
        rintro _ _ _ ⟨rfl, rfl, rfl⟩
        refine xa_iinc (pc := 52) (v := nI (x + 1)) dX8_leave_52 rfl (by decide) (nI_1 _) ?_
        refine xa_goto (pc := 55) (tgt := 19) dX8_leave_55 (by decide) ?_
        exact xa_fgk (ih (by omega) _ (by rw [xa_lp, ← eT]; simp [xm_le1, h24, h34, h43])) (And.intro rfl (And.intro rfl (And.intro rfl trivial)))
set_option maxHeartbeats 4000000 in
theorem cm_leave (E : xa_EV) (S : xa_AH) {nh ns : Nat} (hW : xm_wf nh ns S) (hN : xm_nm nh S) (h : Int32) : xa_Ct E mX8_leave [.ref 130, .int h] xm_L S xm_R (xa_pR (.int (xa_b (xm_leave nh ns S h).1)) (xm_leave nh ns S h).2 xm_R) := by
  refine xa_Ct.of [some (.ref 130), some (.int h), none] rfl (Nat.le_of_ble_eq_true rfl) (by simp [Value.category]) rfl ?_
  obtain ⟨w1, w2, w3, w4, w5⟩ := id hW
  refine xa_aload_n (pc := 0) dX8_leave_0 rfl ?_
  refine xa_iload_n (pc := 1) dX8_leave_1 rfl ?_
  refine xa_callV (pc := 2) xm_o rfl rfl lcX8_173 dX8_leave_2 (cm_isUp E _ hW _) rfl rfl (by decide) (Nat.le_of_ble_eq_true rfl) (by decide) ?_
  rintro _ _ _ ⟨rfl, rfl, rfl⟩
  refine xa_if_ne (pc := 5) 10 dX8_leave_5 (by decide) (fun h5 => ?_) (fun h5 => ?_)
  · have h5 := xa_b_n0.mp h5
    have hv1 := (xm_isH_t (by omega)).mp (xm_up_h h5)
    have hb1 : xc h < nh := xa_in_lt hv1
    refine xa_aload_n (pc := 10) dX8_leave_10 rfl ?_
    refine xa_getA (pc := 11) 8 6 137 lfX8_28 dX8_leave_11 xm_o rfl rfl rfl ?_
    refine xa_iload_n (pc := 14) dX8_leave_14 rfl ?_
    refine xa_iconst (pc := 15) (v := 1) dX8_leave_15 (by decide) ?_
    refine xa_zastN (pc := 16) (xc h) dX8_leave_16 xm_137 rfl (xa_in_eq hv1) (by show _ < 12; omega) (by decide) rfl ?_
    refine xa_iconst (pc := 17) (v := 0) dX8_leave_17 (by decide) ?_
    refine xa_istore_n (pc := 18) dX8_leave_18 (by decide) ?_
    rw [show xm_leave nh ns S h = _ from if_pos h5]
    exact lm_leave19 E (xa_up S 137 (xc h) 1) (xm_wf_up hW rfl) (xm_nm_up hN rfl) hv1 hb1 0 (Nat.zero_le _) _ rfl
  · have h5 := xa_b_0.mp h5
    refine xa_iconst (pc := 8) (v := 0) dX8_leave_8 (by decide) ?_
    rw [show xm_leave nh ns S h = _ from if_neg (by simp [h5])]
    exact xa_zret dX8_leave_9 rfl (by decide) ⟨rfl, rfl, rfl⟩
