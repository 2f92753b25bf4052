def xm_jo1 (a b : Int32) (x : Nat) (S : xa_AH) : xa_AH := (xa_up (xa_up S 131 x (if S 131 x = b then a else S 131 x)) 132 x (if S 132 x = b then a else S 132 x))
def xm_jo2 (a : Int32) (s : Nat) (S : xa_AH) : xa_AH := if S 151 s = 2 ∧ S 131 (xc (S 146 s)) = a then (xa_up S 153 s (S 130 36)) else S
def xm_join (nh ns : Nat) (S : xa_AH) (a b : Int32) : Bool × xa_AH := if (xm_in a 0 3 && (xm_in b 0 3 && decide (¬ a = b))) = true then (true, xa_lp (xm_jo2 a) ns (xa_lp (xm_jo1 a b) nh S)) else (false, S)
theorem xm_wf_jo1 {nh ns x : Nat} {a b : Int32} {S : xa_AH} (hw : xm_wf nh ns S) : xm_wf nh ns (xm_jo1 a b x S) := by
  unfold xm_jo1
  exact xm_wf_up (xm_wf_up hw rfl) rfl
theorem xm_wf_jo2 {nh ns x : Nat} {a : Int32} {S : xa_AH} (hw : xm_wf nh ns S) : xm_wf nh ns (xm_jo2 a x S) := by
  unfold xm_jo2; split
  · exact xm_wf_up hw rfl
  · exact hw
theorem xm_nm_jo1 {nh x : Nat} {a b : Int32} {S : xa_AH} (hw : xm_nm nh S) : xm_nm nh (xm_jo1 a b x S) := by
  unfold xm_jo1
  exact xm_nm_up (xm_nm_up hw rfl) rfl
theorem xm_nm_jo2 {nh x : Nat} {a : Int32} {S : xa_AH} (hw : xm_nm nh S) : xm_nm nh (xm_jo2 a x S) := by
  unfold xm_jo2; split
  · exact xm_nm_up hw rfl
  · exact hw
set_option maxHeartbeats 4000000 in
theorem lm_join95 (E : xa_EV) (S : xa_AH) {nh ns : Nat} (hW0 : xm_wf nh ns S) (hN0 : xm_nm nh S) (a b : Int32) : ∀ x, x ≤ ns → ∀ T, T = xa_lp (xm_jo2 a) x S → xa_W E mX8_join (xa_Z E mX8_join xm_L (xa_pR (.int 1) (xa_lp (xm_jo2 a) ns S) xm_R)) 0 0 95 [some (.ref 130), some (.int a), some (.int b), some (.int (nI x))] [] xm_L T xm_R := by
  refine xa_dn (fun x hxl ih => ?_)
  intro T eT
  have hW : xm_wf nh ns T := by rw [eT]; exact xa_lp_inv hW0 (fun i U _ hU => xm_wf_jo2 hU)
  have hN : xm_nm nh T := by rw [eT]; exact xa_lp_inv hN0 (fun i U _ hU => xm_nm_jo2 hU)
  obtain ⟨w1, w2, w3, w4, w5⟩ := id hW
  refine xa_iload_n (pc := 95) dX8_join_95 rfl ?_
  refine xa_aload_n (pc := 96) dX8_join_96 rfl ?_
  refine xa_getI (pc := 97) 8 26 lfX8_170 dX8_join_97 xm_o rfl rfl ?_
  refine xa_icmpN_ge (pc := 100) 144 x ns dX8_join_100 (by decide) rfl w4 (by omega) (by omega) (fun h100 => ?_) (fun h100 => ?_)
  · have g100 : ¬ (x < ns) := by omega
    refine xa_iconst (pc := 144) (v := 1) dX8_join_144 (by decide) ?_
    have ex9 : x = ns := by omega
    subst ex9
    exact xa_zret dX8_join_145 rfl (by decide) ⟨rfl, eT.symm, rfl⟩
  · refine xa_aload_n (pc := 103) dX8_join_103 rfl ?_
    refine xa_getA (pc := 104) 8 20 151 lfX8_68 dX8_join_104 xm_o rfl rfl rfl ?_
    refine xa_iload_n (pc := 107) dX8_join_107 rfl ?_
    refine xa_ialdN (pc := 108) x dX8_join_108 xm_151 rfl rfl (by show _ < 32; omega) (by decide) ?_
    refine xa_iconst (pc := 109) (v := 2) dX8_join_109 (by decide) ?_
    refine xa_icmp_ne (pc := 110) 138 dX8_join_110 (by decide) (fun h110 => ?_) (fun h110 => ?_)
    · refine xa_iinc (pc := 138) (v := nI (x + 1)) dX8_join_138 rfl (by decide) (nI_1 _) ?_
      refine xa_goto (pc := 141) (tgt := 95) dX8_join_141 (by decide) ?_
      exact xa_fgk (ih (by omega) _ (by rw [xa_lp, ← eT]; simp [xm_jo2, h100, h110] <;> rfl)) (And.intro rfl (And.intro rfl (And.intro rfl (And.intro rfl trivial))))
    · have hbo : xc (T 146 x) < nh := xa_in_lt (w5 x (by omega))
      refine xa_aload_n (pc := 113) dX8_join_113 rfl ?_
      refine xa_getA (pc := 114) 8 0 131 lfX8_9 dX8_join_114 xm_o rfl rfl rfl ?_
      refine xa_aload_n (pc := 117) dX8_join_117 rfl ?_
      refine xa_getA (pc := 118) 8 15 146 lfX8_53 dX8_join_118 xm_o rfl rfl rfl ?_
      refine xa_iload_n (pc := 121) dX8_join_121 rfl ?_
      refine xa_ialdN (pc := 122) x dX8_join_122 xm_146 rfl rfl (by show _ < 32; omega) (by decide) ?_
      refine xa_ialdN (pc := 123) (xc (T 146 x)) dX8_join_123 xm_131 rfl (xa_in_eq (w5 x (by omega))) (by show _ < 12; omega) (by decide) ?_
      refine xa_iload_n (pc := 124) dX8_join_124 rfl ?_
      refine xa_icmp_ne (pc := 125) 138 dX8_join_125 (by decide) (fun h125 => ?_) (fun h125 => ?_)
      · refine xa_iinc (pc := 138) (v := nI (x + 1)) dX8_join_138 rfl (by decide) (nI_1 _) ?_
        refine xa_goto (pc := 141) (tgt := 95) dX8_join_141 (by decide) ?_
        exact xa_fgk (ih (by omega) _ (by rw [xa_lp, ← eT]; simp [xm_jo2, h100, h110, h125] <;> rfl)) (And.intro rfl (And.intro rfl (And.intro rfl (And.intro rfl trivial))))
      · refine xa_aload_n (pc := 128) dX8_join_128 rfl ?_
        refine xa_getA (pc := 129) 8 22 153 lfX8_74 dX8_join_129 xm_o rfl rfl rfl ?_
        refine xa_iload_n (pc := 132) dX8_join_132 rfl ?_
        refine xa_aload_n (pc := 133) dX8_join_133 rfl ?_
        refine xa_getI (pc := 134) 8 36 lfX8_191 dX8_join_134 xm_o rfl rfl ?_
        refine xa_iastN (pc := 137) x dX8_join_137 xm_153 rfl rfl (by show _ < 32; omega) (by decide) ?_
        refine xa_iinc (pc := 138) (v := nI (x + 1)) dX8_join_138 rfl (by decide) (nI_1 _) ?_
        refine xa_goto (pc := 141) (tgt := 95) dX8_join_141 (by decide) ?_
        exact xa_fgk (ih (by omega) _ (by rw [xa_lp, ← eT]; simp [xm_jo2, h100, h110, h125] <;> rfl)) (And.intro rfl (And.intro rfl (And.intro rfl (And.intro rfl trivial))))
set_option maxHeartbeats 4000000 in
theorem lm_join27 (E : xa_EV) (S : xa_AH) {nh ns : Nat} (hW0 : xm_wf nh ns S) (hN0 : xm_nm nh S) (a b : Int32) : ∀ x, x ≤ nh → ∀ T, T = xa_lp (xm_jo1 a b) x S → xa_W E mX8_join (xa_Z E mX8_join xm_L (xa_pR (.int 1) (xa_lp (xm_jo2 a) ns (xa_lp (xm_jo1 a b) nh S)) xm_R)) 0 0 27 [some (.ref 130), some (.int a), some (.int b), some (.int (nI x))] [] xm_L T xm_R := by
  refine xa_dn (fun x hxl ih => ?_)
  intro T eT
  have hW : xm_wf nh ns T := by rw [eT]; exact xa_lp_inv hW0 (fun i U _ hU => xm_wf_jo1 hU)
  have hN : xm_nm nh T := by rw [eT]; exact xa_lp_inv hN0 (fun i U _ hU => xm_nm_jo1 hU)
  obtain ⟨w1, w2, w3, w4, w5⟩ := id hW
  refine xa_iload_n (pc := 27) dX8_join_27 rfl ?_
  refine xa_aload_n (pc := 28) dX8_join_28 rfl ?_
  refine xa_getI (pc := 29) 8 14 lfX8_155 dX8_join_29 xm_o rfl rfl ?_
  refine xa_icmpN_ge (pc := 32) 93 x nh dX8_join_32 (by decide) rfl w3 (by omega) (by omega) (fun h32 => ?_) (fun h32 => ?_)
  · have g32 : ¬ (x < nh) := by omega
    refine xa_iconst (pc := 93) (v := 0) dX8_join_93 (by decide) ?_
    refine xa_istore_n (pc := 94) dX8_join_94 (by decide) ?_
    have ex9 : x = nh := by omega
    subst ex9
    rw [← eT]
    exact lm_join95 E T hW hN a b 0 (Nat.zero_le _) T rfl
  · refine xa_aload_n (pc := 35) dX8_join_35 rfl ?_
    refine xa_getA (pc := 36) 8 0 131 lfX8_9 dX8_join_36 xm_o rfl rfl rfl ?_
    refine xa_iload_n (pc := 39) dX8_join_39 rfl ?_
    refine xa_aload_n (pc := 40) dX8_join_40 rfl ?_
    refine xa_getA (pc := 41) 8 0 131 lfX8_9 dX8_join_41 xm_o rfl rfl rfl ?_
    refine xa_iload_n (pc := 44) dX8_join_44 rfl ?_
    refine xa_ialdN (pc := 45) x dX8_join_45 xm_131 rfl rfl (by show _ < 12; omega) (by decide) ?_
    refine xa_iload_n (pc := 46) dX8_join_46 rfl ?_
    refine xa_icmp_ne (pc := 47) 54 dX8_join_47 (by decide) (fun h47 => ?_) (fun h47 => ?_)
    · refine xa_aload_n (pc := 54) dX8_join_54 rfl ?_
      refine xa_getA (pc := 55) 8 0 131 lfX8_9 dX8_join_55 xm_o rfl rfl rfl ?_
      refine xa_iload_n (pc := 58) dX8_join_58 rfl ?_
      refine xa_ialdN (pc := 59) x dX8_join_59 xm_131 rfl rfl (by show _ < 12; omega) (by decide) ?_
      refine xa_iastN (pc := 60) x dX8_join_60 xm_131 rfl rfl (by show _ < 12; omega) (by decide) ?_
      refine xa_aload_n (pc := 61) dX8_join_61 rfl ?_
      refine xa_getA (pc := 62) 8 1 132 lfX8_13 dX8_join_62 xm_o rfl rfl rfl ?_
      refine xa_iload_n (pc := 65) dX8_join_65 rfl ?_
      refine xa_aload_n (pc := 66) dX8_join_66 rfl ?_
      refine xa_getA (pc := 67) 8 1 132 lfX8_13 dX8_join_67 xm_o rfl rfl rfl ?_
      refine xa_iload_n (pc := 70) dX8_join_70 rfl ?_
      refine xa_ialdN (pc := 71) x dX8_join_71 xm_132 rfl rfl (by show _ < 12; omega) (by decide) ?_
      refine xa_iload_n (pc := 72) dX8_join_72 rfl ?_
      refine xa_icmp_ne (pc := 73) 80 dX8_join_73 (by decide) (fun h73 => ?_) (fun h73 => ?_)
      · refine xa_aload_n (pc := 80) dX8_join_80 rfl ?_
        refine xa_getA (pc := 81) 8 1 132 lfX8_13 dX8_join_81 xm_o rfl rfl rfl ?_
        refine xa_iload_n (pc := 84) dX8_join_84 rfl ?_
        refine xa_ialdN (pc := 85) x dX8_join_85 xm_132 rfl rfl (by show _ < 12; omega) (by decide) ?_
        refine xa_iastN (pc := 86) x dX8_join_86 xm_132 rfl rfl (by show _ < 12; omega) (by decide) ?_
        refine xa_iinc (pc := 87) (v := nI (x + 1)) dX8_join_87 rfl (by decide) (nI_1 _) ?_
        refine xa_goto (pc := 90) (tgt := 27) dX8_join_90 (by decide) ?_
        have k73 : ¬ T 132 x = b := h73
        exact xa_fgk (ih (by omega) _ (by rw [xa_lp, ← eT]; simp [xm_jo1, h47, k73] <;> rfl)) (And.intro rfl (And.intro rfl (And.intro rfl (And.intro rfl trivial))))
      · refine xa_iload_n (pc := 76) dX8_join_76 rfl ?_
        refine xa_goto (pc := 77) (tgt := 86) dX8_join_77 (by decide) ?_
        refine xa_iastN (pc := 86) x dX8_join_86 xm_132 rfl rfl (by show _ < 12; omega) (by decide) ?_
        refine xa_iinc (pc := 87) (v := nI (x + 1)) dX8_join_87 rfl (by decide) (nI_1 _) ?_
        refine xa_goto (pc := 90) (tgt := 27) dX8_join_90 (by decide) ?_
        have k73 : T 132 x = b := h73
        exact xa_fgk (ih (by omega) _ (by rw [xa_lp, ← eT]; simp [xm_jo1, h47, k73] <;> rfl)) (And.intro rfl (And.intro rfl (And.intro rfl (And.intro rfl trivial))))
    · refine xa_iload_n (pc := 50) dX8_join_50 rfl ?_
      refine xa_goto (pc := 51) (tgt := 60) dX8_join_51 (by decide) ?_
      refine xa_iastN (pc := 60) x dX8_join_60 xm_131 rfl rfl (by show _ < 12; omega) (by decide) ?_
      refine xa_aload_n (pc := 61) dX8_join_61 rfl ?_
      refine xa_getA (pc := 62) 8 1 132 lfX8_13 dX8_join_62 xm_o rfl rfl rfl ?_
      refine xa_iload_n (pc := 65) dX8_join_65 rfl ?_
      refine xa_aload_n (pc := 66) dX8_join_66 rfl ?_
      refine xa_getA (pc := 67) 8 1 132 lfX8_13 dX8_join_67 xm_o rfl rfl rfl ?_
      refine xa_iload_n (pc := 70) dX8_join_70 rfl ?_
      refine xa_ialdN (pc := 71) x dX8_join_71 xm_132 rfl rfl (by show _ < 12; omega) (by decide) ?_
      refine xa_iload_n (pc := 72) dX8_join_72 rfl ?_
      refine xa_icmp_ne (pc := 73) 80 dX8_join_73 (by decide) (fun h73 => ?_) (fun h73 => ?_)
      · refine xa_aload_n (pc := 80) dX8_join_80 rfl ?_
        refine xa_getA (pc := 81) 8 1 132 lfX8_13 dX8_join_81 xm_o rfl rfl rfl ?_
        refine xa_iload_n (pc := 84) dX8_join_84 rfl ?_
        refine xa_ialdN (pc := 85) x dX8_join_85 xm_132 rfl rfl (by show _ < 12; omega) (by decide) ?_
        refine xa_iastN (pc := 86) x dX8_join_86 xm_132 rfl rfl (by show _ < 12; omega) (by decide) ?_
        refine xa_iinc (pc := 87) (v := nI (x + 1)) dX8_join_87 rfl (by decide) (nI_1 _) ?_
        refine xa_goto (pc := 90) (tgt := 27) dX8_join_90 (by decide) ?_
        have k73 : ¬ T 132 x = b := h73
        exact xa_fgk (ih (by omega) _ (by rw [xa_lp, ← eT]; simp [xm_jo1, h47, k73] <;> rfl)) (And.intro rfl (And.intro rfl (And.intro rfl (And.intro rfl trivial))))
      · refine xa_iload_n (pc := 76) dX8_join_76 rfl ?_
        refine xa_goto (pc := 77) (tgt := 86) dX8_join_77 (by decide) ?_
        refine xa_iastN (pc := 86) x dX8_join_86 xm_132 rfl rfl (by show _ < 12; omega) (by decide) ?_
        refine xa_iinc (pc := 87) (v := nI (x + 1)) dX8_join_87 rfl (by decide) (nI_1 _) ?_
        refine xa_goto (pc := 90) (tgt := 27) dX8_join_90 (by decide) ?_
        have k73 : T 132 x = b := h73
        exact xa_fgk (ih (by omega) _ (by rw [xa_lp, ← eT]; simp [xm_jo1, h47, k73] <;> rfl)) (And.intro rfl (And.intro rfl (And.intro rfl (And.intro rfl trivial))))
set_option maxHeartbeats 4000000 in
theorem cm_join (E : xa_EV) (S : xa_AH) {nh ns : Nat} (hW : xm_wf nh ns S) (hN : xm_nm nh S) (a b : Int32) : xa_Ct E mX8_join [.ref 130, .int a, .int b] xm_L S xm_R (xa_pR (.int (xa_b (xm_join nh ns S a b).1)) (xm_join nh ns S a b).2 xm_R) := by
  refine xa_Ct.of [some (.ref 130), some (.int a), some (.int b), none] rfl (Nat.le_of_ble_eq_true rfl) (by simp [Value.category]) rfl ?_
  obtain ⟨w1, w2, w3, w4, w5⟩ := id hW
  refine xa_iload_n (pc := 0) dX8_join_0 rfl ?_
  refine xa_iconst (pc := 1) (v := 0) dX8_join_1 (by decide) ?_
  refine xa_iconst (pc := 2) (v := 3) dX8_join_2 (by decide) ?_
  refine xa_callS (pc := 3) lcX8_159 dX8_join_3 (cm_in E _ _ _ _ _ _) rfl rfl (by decide) (Nat.le_of_ble_eq_true rfl) (by decide) ?_
  rintro _ _ _ ⟨rfl, rfl, rfl⟩
  refine xa_if_eq (pc := 6) 23 dX8_join_6 (by decide) (fun h6 => ?_) (fun h6 => ?_)
  · have h6 := xa_b_0.mp h6
    refine xa_iconst (pc := 23) (v := 0) dX8_join_23 (by decide) ?_
    rw [show xm_join nh ns S a b = _ from if_neg (by simp [h6])]
    exact xa_zret dX8_join_24 rfl (by decide) ⟨rfl, rfl, rfl⟩
  · have h6 := xa_b_n0.mp h6
    refine xa_iload_n (pc := 9) dX8_join_9 rfl ?_
    refine xa_iconst (pc := 10) (v := 0) dX8_join_10 (by decide) ?_
    refine xa_iconst (pc := 11) (v := 3) dX8_join_11 (by decide) ?_
    refine xa_callS (pc := 12) lcX8_159 dX8_join_12 (cm_in E _ _ _ _ _ _) rfl rfl (by decide) (Nat.le_of_ble_eq_true rfl) (by decide) ?_
    rintro _ _ _ ⟨rfl, rfl, rfl⟩
    refine xa_if_eq (pc := 15) 23 dX8_join_15 (by decide) (fun h15 => ?_) (fun h15 => ?_)
    · have h15 := xa_b_0.mp h15
      refine xa_iconst (pc := 23) (v := 0) dX8_join_23 (by decide) ?_
      rw [show xm_join nh ns S a b = _ from if_neg (by simp [h6, h15])]
      exact xa_zret dX8_join_24 rfl (by decide) ⟨rfl, rfl, rfl⟩
    · have h15 := xa_b_n0.mp h15
      refine xa_iload_n (pc := 18) dX8_join_18 rfl ?_
      refine xa_iload_n (pc := 19) dX8_join_19 rfl ?_
      refine xa_icmp_ne (pc := 20) 25 dX8_join_20 (by decide) (fun h20 => ?_) (fun h20 => ?_)
      · refine xa_iconst (pc := 25) (v := 0) dX8_join_25 (by decide) ?_
        refine xa_istore_n (pc := 26) dX8_join_26 (by decide) ?_
        rw [show xm_join nh ns S a b = _ from if_pos (by simp [h6, h15, h20])]
        exact lm_join27 E S hW hN a b 0 (Nat.zero_le _) _ rfl
      · refine xa_iconst (pc := 23) (v := 0) dX8_join_23 (by decide) ?_
        rw [show xm_join nh ns S a b = _ from if_neg (by simp [h6, h15, h20])]
        exact xa_zret dX8_join_24 rfl (by decide) ⟨rfl, rfl, rfl⟩
