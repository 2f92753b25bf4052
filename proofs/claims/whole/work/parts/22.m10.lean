def xm_gn1 (h k : Nat) (S : xa_AH) : xa_AH := xa_up S 164 (16 * h + k) 0
def xm_gn2 (h : Nat) (S : xa_AH) : xa_AH := xm_clr (24 + 2 * h + 1) (xm_clr (24 + 2 * h) S)
def xm_gone (h : Nat) (S : xa_AH) : xa_AH := xm_gn2 h (xa_lp (xm_gn1 h) 16 (xm_emp h (xa_up (xa_up (xa_up (xa_up S 136 h 0) 137 h 0) 138 h 0) 141 h (-1))))
set_option maxHeartbeats 4000000 in
theorem lm_gn59 (E : xa_EV) (S : xa_AH) {h : Nat} (hh : h < 12) : xa_W E mX8_isGone (xa_Z E mX8_isGone xm_L (xa_pV (xm_gn2 h S) xm_R)) 0 0 59 [some (.ref 130), some (.int (nI h)), none] [] xm_L S xm_R := by
  refine xa_aload_n (pc := 59) dX8_isGone_59 rfl ?_
  refine xa_bipush (pc := 60) (v := 24) dX8_isGone_60 (by decide) ?_
  refine xa_iconst (pc := 62) (v := 2) dX8_isGone_62 (by decide) ?_
  refine xa_iload_n (pc := 63) dX8_isGone_63 rfl ?_
  refine xa_imul (pc := 64) dX8_isGone_64 ?_
  refine xa_iadd (pc := 65) dX8_isGone_65 ?_
  refine xa_callV (pc := 66) xm_o rfl rfl lcX8_215 dX8_isGone_66 (cm_clears E _ (r := (24 + (2 * h))) (xa_pa rfl (xa_pm rfl rfl)) (by omega)) rfl rfl (by decide) (Nat.le_of_ble_eq_true rfl) (by decide) ?_
  rintro _ _ _ ⟨rfl, rfl, rfl⟩
  refine xa_aload_n (pc := 69) dX8_isGone_69 rfl ?_
  refine xa_bipush (pc := 70) (v := 24) dX8_isGone_70 (by decide) ?_
  refine xa_iconst (pc := 72) (v := 2) dX8_isGone_72 (by decide) ?_
  refine xa_iload_n (pc := 73) dX8_isGone_73 rfl ?_
  refine xa_imul (pc := 74) dX8_isGone_74 ?_
  refine xa_iadd (pc := 75) dX8_isGone_75 ?_
  refine xa_iconst (pc := 76) (v := 1) dX8_isGone_76 (by decide) ?_
  refine xa_iadd (pc := 77) dX8_isGone_77 ?_
  refine xa_callV (pc := 78) xm_o rfl rfl lcX8_215 dX8_isGone_78 (cm_clears E _ (r := ((24 + (2 * h)) + 1)) (xa_pa (xa_pa rfl (xa_pm rfl rfl)) rfl) (by omega)) rfl rfl (by decide) (Nat.le_of_ble_eq_true rfl) (by decide) ?_
  rintro _ _ _ ⟨rfl, rfl, rfl⟩
  exact xa_vret dX8_isGone_81 rfl ⟨rfl, rfl, rfl⟩
set_option maxHeartbeats 4000000 in
theorem lm_gn35 (E : xa_EV) (S : xa_AH) {h : Nat} (hh : h < 12)  : ∀ s, s ≤ 16 → ∀ T, T = xa_lp (xm_gn1 h) s S → xa_W E mX8_isGone (xa_Z E mX8_isGone xm_L (xa_pV (xm_gn2 h (xa_lp (xm_gn1 h) 16 S)) xm_R)) 0 0 35 [some (.ref 130), some (.int (nI h)), some (.int (nI s))] [] xm_L T xm_R := by
  refine xa_dn (fun s hs ih => ?_)
  intro T eT
  refine xa_iload_n (pc := 35) dX8_isGone_35 rfl ?_
  refine xa_bipush (pc := 36) (v := 16) dX8_isGone_36 (by decide) ?_
  refine xa_icmpN_ge (pc := 38) 59 s 16 dX8_isGone_38 (by decide) rfl rfl (by omega) (by omega) (fun h38 => ?_) (fun h38 => ?_)
  · have g38 : ¬ (s < 16) := by omega
    have es : s = 16 := by omega
    subst es; subst eT
    exact xa_fgk (lm_gn59 E _ hh) (And.intro rfl (And.intro rfl trivial))
  · refine xa_aload_n (pc := 41) dX8_isGone_41 rfl ?_
    refine xa_getA (pc := 42) 8 33 164 lfX8_104 dX8_isGone_42 xm_o rfl rfl rfl ?_
    refine xa_bipush (pc := 45) (v := 16) dX8_isGone_45 (by decide) ?_
    refine xa_iload_n (pc := 47) dX8_isGone_47 rfl ?_
    refine xa_imul (pc := 48) dX8_isGone_48 ?_
    refine xa_iload_n (pc := 49) dX8_isGone_49 rfl ?_
    refine xa_iadd (pc := 50) dX8_isGone_50 ?_
    refine xa_iconst (pc := 51) (v := 0) dX8_isGone_51 (by decide) ?_
    refine xa_zastN (pc := 52) ((16 * h) + s) dX8_isGone_52 xm_164 rfl (xa_pa (xa_pm rfl rfl) rfl) (by show _ < 192; omega) (by decide) rfl ?_
    refine xa_iinc (pc := 53) (v := nI (s + 1)) dX8_isGone_53 rfl (by decide) (nI_1 _) ?_
    refine xa_goto (pc := 56) (tgt := 35) dX8_isGone_56 (by decide) ?_
    subst eT; exact xa_fgk (ih (by omega) _ rfl) (And.intro rfl (And.intro rfl (And.intro rfl trivial)))
set_option maxHeartbeats 4000000 in
theorem cm_isGone (E : xa_EV) (S : xa_AH) {h : Nat} {xh : Int32} (eh : xh = nI h) (hh : h < 12) : xa_Ct E mX8_isGone [.ref 130, .int xh] xm_L S xm_R (xa_pV (xm_gone h S) xm_R) := by
  subst eh
  refine xa_Ct.of [some (.ref 130), some (.int (nI h)), none] rfl (Nat.le_of_ble_eq_true rfl) (by simp [Value.category]) rfl ?_
  refine xa_aload_n (pc := 0) dX8_isGone_0 rfl ?_
  refine xa_getA (pc := 1) 8 5 136 lfX8_25 dX8_isGone_1 xm_o rfl rfl rfl ?_
  refine xa_iload_n (pc := 4) dX8_isGone_4 rfl ?_
  refine xa_iconst (pc := 5) (v := 0) dX8_isGone_5 (by decide) ?_
  refine xa_iastN (pc := 6) h dX8_isGone_6 xm_136 rfl rfl (by show _ < 12; omega) (by decide) ?_
  refine xa_aload_n (pc := 7) dX8_isGone_7 rfl ?_
  refine xa_getA (pc := 8) 8 6 137 lfX8_28 dX8_isGone_8 xm_o rfl rfl rfl ?_
  refine xa_iload_n (pc := 11) dX8_isGone_11 rfl ?_
  refine xa_iconst (pc := 12) (v := 0) dX8_isGone_12 (by decide) ?_
  refine xa_zastN (pc := 13) h dX8_isGone_13 xm_137 rfl rfl (by show _ < 12; omega) (by decide) rfl ?_
  refine xa_aload_n (pc := 14) dX8_isGone_14 rfl ?_
  refine xa_getA (pc := 15) 8 7 138 lfX8_32 dX8_isGone_15 xm_o rfl rfl rfl ?_
  refine xa_iload_n (pc := 18) dX8_isGone_18 rfl ?_
  refine xa_iconst (pc := 19) (v := 0) dX8_isGone_19 (by decide) ?_
  refine xa_zastN (pc := 20) h dX8_isGone_20 xm_138 rfl rfl (by show _ < 12; omega) (by decide) rfl ?_
  refine xa_aload_n (pc := 21) dX8_isGone_21 rfl ?_
  refine xa_getA (pc := 22) 8 10 141 lfX8_41 dX8_isGone_22 xm_o rfl rfl rfl ?_
  refine xa_iload_n (pc := 25) dX8_isGone_25 rfl ?_
  refine xa_iconst (pc := 26) (v := (-1)) dX8_isGone_26 (by decide) ?_
  refine xa_iastN (pc := 27) h dX8_isGone_27 xm_141 rfl rfl (by show _ < 12; omega) (by decide) ?_
  refine xa_aload_n (pc := 28) dX8_isGone_28 rfl ?_
  refine xa_iload_n (pc := 29) dX8_isGone_29 rfl ?_
  refine xa_callV (pc := 30) xm_o rfl rfl lcX8_212 dX8_isGone_30 (cm_empties E _ (h := h) rfl (by omega)) rfl rfl (by decide) (Nat.le_of_ble_eq_true rfl) (by decide) ?_
  rintro _ _ _ ⟨rfl, rfl, rfl⟩
  refine xa_iconst (pc := 33) (v := 0) dX8_isGone_33 (by decide) ?_
  refine xa_istore_n (pc := 34) dX8_isGone_34 (by decide) ?_
  exact lm_gn35 E _ hh 0 (Nat.zero_le _) _ rfl
def xm_by1 (h wr s : Nat) (S : xa_AH) : xa_AH := if ¬ S 146 s = nI h ∨ S 155 s = 0 then S else (xa_up (xa_up (xa_up S 155 s 0) 185 (32 * wr + s) 1) 186 (32 * wr + s) (1 <<< (S 131 h &&& 31)))
def xm_by (ns h wr : Nat) (S : xa_AH) : xa_AH := xa_lp (xm_by1 h wr) ns S
theorem xm_wf_by1 {nh ns h wr x : Nat} {S : xa_AH} (hw : xm_wf nh ns S) : xm_wf nh ns (xm_by1 h wr x S) := by
  unfold xm_by1; split
  · exact hw
  · exact xm_wf_up (xm_wf_up (xm_wf_up hw rfl) rfl) rfl
theorem xm_nm_by1 {nh h wr x : Nat} {S : xa_AH} (hw : xm_nm nh S) : xm_nm nh (xm_by1 h wr x S) := by
  unfold xm_by1; split
  · exact hw
  · exact xm_nm_up (xm_nm_up (xm_nm_up hw rfl) rfl) rfl
theorem xm_wt_by1 {h wr x : Nat} {S : xa_AH} {v : Int32} (hw : S 130 47 = v) : xm_by1 h wr x S 130 47 = v := by
  unfold xm_by1; split
  · exact hw
  · exact hw
set_option maxHeartbeats 4000000 in
theorem lm_byes (E : xa_EV) (S : xa_AH) {nh ns : Nat} (hW0 : xm_wf nh ns S) (hN0 : xm_nm nh S) {h wr : Nat} (hh : h < 12) (hwr0 : S 130 47 = nI wr) (hwl : wr < 24) : ∀ x, x ≤ ns → ∀ T, T = xa_lp (xm_by1 h wr) x S → xa_W E mX8_byes (xa_Z E mX8_byes xm_L (xa_pV (xm_by ns h wr S) xm_R)) 0 0 2 [some (.ref 130), some (.int (nI h)), some (.int (nI x))] [] xm_L T xm_R := by
  refine xa_dn (fun x hxl ih => ?_)
  intro T eT
  have hW : xm_wf nh ns T := by rw [eT]; exact xa_lp_inv hW0 (fun i U _ hU => xm_wf_by1 hU)
  have hN : xm_nm nh T := by rw [eT]; exact xa_lp_inv hN0 (fun i U _ hU => xm_nm_by1 hU)
  obtain ⟨w1, w2, w3, w4, w5⟩ := id hW
  have hwr : T 130 47 = nI wr := by rw [eT]; exact xa_lp_inv (I := fun U : xa_AH => U 130 47 = nI wr) hwr0 (fun i U _ hU => xm_wt_by1 hU)
  refine xa_iload_n (pc := 2) dX8_byes_2 rfl ?_
  refine xa_aload_n (pc := 3) dX8_byes_3 rfl ?_
  refine xa_getI (pc := 4) 8 26 lfX8_170 dX8_byes_4 xm_o rfl rfl ?_
  refine xa_icmpN_ge (pc := 7) 82 x ns dX8_byes_7 (by decide) rfl w4 (by omega) (by omega) (fun h7 => ?_) (fun h7 => ?_)
  · have g7 : ¬ (x < ns) := by omega
    have ex9 : x = ns := by omega
    subst ex9
    exact xa_vret dX8_byes_82 rfl ⟨rfl, eT.symm, rfl⟩
  · refine xa_aload_n (pc := 10) dX8_byes_10 rfl ?_
    refine xa_getA (pc := 11) 8 15 146 lfX8_53 dX8_byes_11 xm_o rfl rfl rfl ?_
    refine xa_iload_n (pc := 14) dX8_byes_14 rfl ?_
    refine xa_ialdN (pc := 15) x dX8_byes_15 xm_146 rfl rfl (by show _ < 32; omega) (by decide) ?_
    refine xa_iload_n (pc := 16) dX8_byes_16 rfl ?_
    refine xa_icmp_ne (pc := 17) 76 dX8_byes_17 (by decide) (fun h17 => ?_) (fun h17 => ?_)
    · refine xa_iinc (pc := 76) (v := nI (x + 1)) dX8_byes_76 rfl (by decide) (nI_1 _) ?_
      refine xa_goto (pc := 79) (tgt := 2) dX8_byes_79 (by decide) ?_
      exact xa_fgk (ih (by omega) _ (by rw [xa_lp, ← eT]; simp [xm_by1, h7, h17] <;> rfl)) (And.intro rfl (And.intro rfl (And.intro rfl trivial)))
    · refine xa_aload_n (pc := 20) dX8_byes_20 rfl ?_
      refine xa_getA (pc := 21) 8 24 155 lfX8_80 dX8_byes_21 xm_o rfl rfl rfl ?_
      refine xa_iload_n (pc := 24) dX8_byes_24 rfl ?_
      refine xa_zaldN (pc := 25) x dX8_byes_25 xm_155 rfl rfl (by show _ < 32; omega) (by decide) ?_
      refine xa_if_ne (pc := 26) 32 dX8_byes_26 (by decide) (fun h26 => ?_) (fun h26 => ?_)
      · refine xa_aload_n (pc := 32) dX8_byes_32 rfl ?_
        refine xa_getA (pc := 33) 8 24 155 lfX8_80 dX8_byes_33 xm_o rfl rfl rfl ?_
        refine xa_iload_n (pc := 36) dX8_byes_36 rfl ?_
        refine xa_iconst (pc := 37) (v := 0) dX8_byes_37 (by decide) ?_
        refine xa_zastN (pc := 38) x dX8_byes_38 xm_155 rfl rfl (by show _ < 32; omega) (by decide) rfl ?_
        refine xa_aload_n (pc := 39) dX8_byes_39 rfl ?_
        refine xa_getA (pc := 40) 8 54 185 lfX8_137 dX8_byes_40 xm_o rfl rfl rfl ?_
        refine xa_bipush (pc := 43) (v := 32) dX8_byes_43 (by decide) ?_
        refine xa_aload_n (pc := 45) dX8_byes_45 rfl ?_
        refine xa_getI (pc := 46) 8 47 lfX8_225 dX8_byes_46 xm_o rfl rfl ?_
        refine xa_imul (pc := 49) dX8_byes_49 ?_
        refine xa_iload_n (pc := 50) dX8_byes_50 rfl ?_
        refine xa_iadd (pc := 51) dX8_byes_51 ?_
        refine xa_iconst (pc := 52) (v := 1) dX8_byes_52 (by decide) ?_
        refine xa_zastN (pc := 53) ((32 * wr) + x) dX8_byes_53 xm_185 rfl (xa_pa (xa_pm rfl hwr) rfl) (by show _ < 1536; omega) (by decide) rfl ?_
        refine xa_aload_n (pc := 54) dX8_byes_54 rfl ?_
        refine xa_getA (pc := 55) 8 55 186 lfX8_140 dX8_byes_55 xm_o rfl rfl rfl ?_
        refine xa_bipush (pc := 58) (v := 32) dX8_byes_58 (by decide) ?_
        refine xa_aload_n (pc := 60) dX8_byes_60 rfl ?_
        refine xa_getI (pc := 61) 8 47 lfX8_225 dX8_byes_61 xm_o rfl rfl ?_
        refine xa_imul (pc := 64) dX8_byes_64 ?_
        refine xa_iload_n (pc := 65) dX8_byes_65 rfl ?_
        refine xa_iadd (pc := 66) dX8_byes_66 ?_
        refine xa_iconst (pc := 67) (v := 1) dX8_byes_67 (by decide) ?_
        refine xa_aload_n (pc := 68) dX8_byes_68 rfl ?_
        refine xa_getA (pc := 69) 8 0 131 lfX8_9 dX8_byes_69 xm_o rfl rfl rfl ?_
        refine xa_iload_n (pc := 72) dX8_byes_72 rfl ?_
        refine xa_ialdN (pc := 73) h dX8_byes_73 xm_131 rfl rfl (by show _ < 12; omega) (by decide) ?_
        refine xa_ishl (pc := 74) dX8_byes_74 ?_
        refine xa_iastN (pc := 75) ((32 * wr) + x) dX8_byes_75 xm_186 rfl (xa_pa (xa_pm rfl hwr) rfl) (by show _ < 1536; omega) (by decide) ?_
        refine xa_iinc (pc := 76) (v := nI (x + 1)) dX8_byes_76 rfl (by decide) (nI_1 _) ?_
        refine xa_goto (pc := 79) (tgt := 2) dX8_byes_79 (by decide) ?_
        exact xa_fgk (ih (by omega) _ (by rw [xa_lp, ← eT]; simp [xm_by1, h7, h17, h26] <;> rfl)) (And.intro rfl (And.intro rfl (And.intro rfl trivial)))
      · refine xa_goto (pc := 29) (tgt := 76) dX8_byes_29 (by decide) ?_
        refine xa_iinc (pc := 76) (v := nI (x + 1)) dX8_byes_76 rfl (by decide) (nI_1 _) ?_
        refine xa_goto (pc := 79) (tgt := 2) dX8_byes_79 (by decide) ?_
        exact xa_fgk (ih (by omega) _ (by rw [xa_lp, ← eT]; simp [xm_by1, h7, h17, h26] <;> rfl)) (And.intro rfl (And.intro rfl (And.intro rfl trivial)))
set_option maxHeartbeats 4000000 in
theorem cm_byes (E : xa_EV) (S : xa_AH) {nh ns : Nat} (hW : xm_wf nh ns S) (hN : xm_nm nh S) {wr : Nat} (hwr0 : S 130 47 = nI wr) (hwl : wr < 24) {h : Nat} {xh : Int32} (eh : xh = nI h) (hh : h < 12) : xa_Ct E mX8_byes [.ref 130, .int xh] xm_L S xm_R (xa_pV (xm_by ns h wr S) xm_R) := by
  subst eh
  refine xa_Ct.of [some (.ref 130), some (.int (nI h)), none] rfl (Nat.le_of_ble_eq_true rfl) (by simp [Value.category]) rfl ?_
  obtain ⟨w1, w2, w3, w4, w5⟩ := id hW
  refine xa_iconst (pc := 0) (v := 0) dX8_byes_0 (by decide) ?_
  refine xa_istore_n (pc := 1) dX8_byes_1 (by decide) ?_
  exact lm_byes E S hW hN hh hwr0 hwl 0 (Nat.zero_le _) _ rfl
