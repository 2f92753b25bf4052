def xm_as1 (ns h wr : Nat) (t : Int32) (k : Nat) (S : xa_AH) : xa_AH := if S 164 (16 * h + k) = 0 ∨ ¬ S 166 (16 * h + k) ≤ t then S else (xa_up (xa_up (xa_up (xa_up (xa_up S 164 (16 * h + k) 0) 179 (16 * wr + k) 1) 180 (16 * wr + k) (S 165 (16 * h + k))) 181 (16 * wr + k) (xm_kn ns S h (nI k) t)) 182 (16 * wr + k) (1 <<< (S 131 h &&& 31)))
def xm_as (ns h wr : Nat) (t : Int32) (S : xa_AH) : xa_AH := xa_lp (xm_as1 ns h wr t) 16 S
theorem xm_wf_as1 {nh ns h wr x : Nat} {t : Int32} {S : xa_AH} (hw : xm_wf nh ns S) : xm_wf nh ns (xm_as1 ns h wr t x S) := by
  unfold xm_as1
  split
  · exact hw
  · exact (xm_wf_up (xm_wf_up (xm_wf_up (xm_wf_up (xm_wf_up hw rfl) rfl) rfl) rfl) rfl)
theorem xm_nm_as1 {nh ns h wr x : Nat} {t : Int32} {S : xa_AH} (hw : xm_nm nh S) : xm_nm nh (xm_as1 ns h wr t x S) := by
  unfold xm_as1
  split
  · exact hw
  · exact (xm_nm_up (xm_nm_up (xm_nm_up (xm_nm_up (xm_nm_up hw rfl) rfl) rfl) rfl) rfl)
theorem xm_wt_as1 {ns h wr x : Nat} {t : Int32} {S : xa_AH} {v : Int32} (hw : S 130 47 = v) : xm_as1 ns h wr t x S 130 47 = v := by
  unfold xm_as1; split
  · exact hw
  · exact hw
set_option maxHeartbeats 4000000 in
theorem lm_asks (E : xa_EV) (S : xa_AH) {nh ns : Nat} (hW0 : xm_wf nh ns S) (hN0 : xm_nm nh S) {h wr : Nat} (hh : h < 12) (hwr0 : S 130 47 = nI wr) (hwl : wr < 24) (t : Int32) : ∀ x, x ≤ 16 → ∀ T, T = xa_lp (xm_as1 ns h wr t) x S → xa_W E mX8_asks (xa_Z E mX8_asks xm_L (xa_pV (xm_as ns h wr t S) xm_R)) 0 0 2 [some (.ref 130), some (.int (nI h)), some (.int t), some (.int (nI x)), none] [] xm_L T xm_R := by
  refine xa_dn (fun x hxl ih => ?_)
  intro T eT
  have hW : xm_wf nh ns T := by rw [eT]; exact xa_lp_inv hW0 (fun i U _ hU => xm_wf_as1 hU)
  have hN : xm_nm nh T := by rw [eT]; exact xa_lp_inv hN0 (fun i U _ hU => xm_nm_as1 hU)
  obtain ⟨w1, w2, w3, w4, w5⟩ := id hW
  have hwr : T 130 47 = nI wr := by rw [eT]; exact xa_lp_inv (I := fun U : xa_AH => U 130 47 = nI wr) hwr0 (fun i U _ hU => xm_wt_as1 hU)
  refine xa_iload_n (pc := 2) dX8_asks_2 rfl ?_
  refine xa_bipush (pc := 3) (v := 16) dX8_asks_3 (by decide) ?_
  refine xa_icmpN_ge (pc := 5) 124 x 16 dX8_asks_5 (by decide) rfl rfl (by omega) (by omega) (fun h5 => ?_) (fun h5 => ?_)
  · have g5 : ¬ (x < 16) := by omega
    have ex9 : x = 16 := by omega
    subst ex9
    exact xa_vret dX8_asks_124 rfl ⟨rfl, eT.symm, rfl⟩
  · refine xa_aload_n (pc := 8) dX8_asks_8 rfl ?_
    refine xa_getA (pc := 9) 8 33 164 lfX8_104 dX8_asks_9 xm_o rfl rfl rfl ?_
    refine xa_bipush (pc := 12) (v := 16) dX8_asks_12 (by decide) ?_
    refine xa_iload_n (pc := 14) dX8_asks_14 rfl ?_
    refine xa_imul (pc := 15) dX8_asks_15 ?_
    refine xa_iload_n (pc := 16) dX8_asks_16 rfl ?_
    refine xa_iadd (pc := 17) dX8_asks_17 ?_
    refine xa_zaldN (pc := 18) ((16 * h) + x) dX8_asks_18 xm_164 rfl (xa_pa (xa_pm rfl rfl) rfl) (by show _ < 192; omega) (by decide) ?_
    refine xa_if_eq (pc := 19) 118 dX8_asks_19 (by decide) (fun h19 => ?_) (fun h19 => ?_)
    · refine xa_iinc (pc := 118) (v := nI (x + 1)) dX8_asks_118 rfl (by decide) (nI_1 _) ?_
      refine xa_goto (pc := 121) (tgt := 2) dX8_asks_121 (by decide) ?_
      exact xa_fgk (ih (by omega) _ (by rw [xa_lp, ← eT, xm_as1, if_pos (Or.inl h19)])) (And.intro rfl (And.intro rfl (And.intro rfl (And.intro rfl trivial))))
    · refine xa_aload_n (pc := 22) dX8_asks_22 rfl ?_
      refine xa_getA (pc := 23) 8 35 166 lfX8_110 dX8_asks_23 xm_o rfl rfl rfl ?_
      refine xa_bipush (pc := 26) (v := 16) dX8_asks_26 (by decide) ?_
      refine xa_iload_n (pc := 28) dX8_asks_28 rfl ?_
      refine xa_imul (pc := 29) dX8_asks_29 ?_
      refine xa_iload_n (pc := 30) dX8_asks_30 rfl ?_
      refine xa_iadd (pc := 31) dX8_asks_31 ?_
      refine xa_ialdN (pc := 32) ((16 * h) + x) dX8_asks_32 xm_166 rfl (xa_pa (xa_pm rfl rfl) rfl) (by show _ < 192; omega) (by decide) ?_
      refine xa_iload_n (pc := 33) dX8_asks_33 rfl ?_
      refine xa_icmp_le (pc := 34) 40 dX8_asks_34 (by decide) (fun h34 => ?_) (fun h34 => ?_)
      · refine xa_aload_n (pc := 40) dX8_asks_40 rfl ?_
        refine xa_getA (pc := 41) 8 33 164 lfX8_104 dX8_asks_41 xm_o rfl rfl rfl ?_
        refine xa_bipush (pc := 44) (v := 16) dX8_asks_44 (by decide) ?_
        refine xa_iload_n (pc := 46) dX8_asks_46 rfl ?_
        refine xa_imul (pc := 47) dX8_asks_47 ?_
        refine xa_iload_n (pc := 48) dX8_asks_48 rfl ?_
        refine xa_iadd (pc := 49) dX8_asks_49 ?_
        refine xa_iconst (pc := 50) (v := 0) dX8_asks_50 (by decide) ?_
        refine xa_zastN (pc := 51) ((16 * h) + x) dX8_asks_51 xm_164 rfl (xa_pa (xa_pm rfl rfl) rfl) (by show _ < 192; omega) (by decide) rfl ?_
        refine xa_bipush (pc := 52) (v := 16) dX8_asks_52 (by decide) ?_
        refine xa_aload_n (pc := 54) dX8_asks_54 rfl ?_
        refine xa_getI (pc := 55) 8 47 lfX8_225 dX8_asks_55 xm_o rfl rfl ?_
        refine xa_imul (pc := 58) dX8_asks_58 ?_
        refine xa_iload_n (pc := 59) dX8_asks_59 rfl ?_
        refine xa_iadd (pc := 60) dX8_asks_60 ?_
        refine xa_istore (pc := 61) dX8_asks_61 (by decide) ?_
        refine xa_aload_n (pc := 63) dX8_asks_63 rfl ?_
        refine xa_getA (pc := 64) 8 48 179 lfX8_119 dX8_asks_64 xm_o rfl rfl rfl ?_
        refine xa_iload (pc := 67) dX8_asks_67 rfl ?_
        refine xa_iconst (pc := 69) (v := 1) dX8_asks_69 (by decide) ?_
        refine xa_zastN (pc := 70) ((16 * wr) + x) dX8_asks_70 xm_179 rfl (xa_pa (xa_pm rfl hwr) rfl) (by show _ < 768; omega) (by decide) rfl ?_
        refine xa_aload_n (pc := 71) dX8_asks_71 rfl ?_
        refine xa_getA (pc := 72) 8 49 180 lfX8_122 dX8_asks_72 xm_o rfl rfl rfl ?_
        refine xa_iload (pc := 75) dX8_asks_75 rfl ?_
        refine xa_aload_n (pc := 77) dX8_asks_77 rfl ?_
        refine xa_getA (pc := 78) 8 34 165 lfX8_107 dX8_asks_78 xm_o rfl rfl rfl ?_
        refine xa_bipush (pc := 81) (v := 16) dX8_asks_81 (by decide) ?_
        refine xa_iload_n (pc := 83) dX8_asks_83 rfl ?_
        refine xa_imul (pc := 84) dX8_asks_84 ?_
        refine xa_iload_n (pc := 85) dX8_asks_85 rfl ?_
        refine xa_iadd (pc := 86) dX8_asks_86 ?_
        refine xa_ialdN (pc := 87) ((16 * h) + x) dX8_asks_87 xm_165 rfl (xa_pa (xa_pm rfl rfl) rfl) (by show _ < 192; omega) (by decide) ?_
        refine xa_iastN (pc := 88) ((16 * wr) + x) dX8_asks_88 xm_180 rfl (xa_pa (xa_pm rfl hwr) rfl) (by show _ < 768; omega) (by decide) ?_
        refine xa_aload_n (pc := 89) dX8_asks_89 rfl ?_
        refine xa_getA (pc := 90) 8 50 181 lfX8_125 dX8_asks_90 xm_o rfl rfl rfl ?_
        refine xa_iload (pc := 93) dX8_asks_93 rfl ?_
        refine xa_aload_n (pc := 95) dX8_asks_95 rfl ?_
        refine xa_iload_n (pc := 96) dX8_asks_96 rfl ?_
        refine xa_iload_n (pc := 97) dX8_asks_97 rfl ?_
        refine xa_iload_n (pc := 98) dX8_asks_98 rfl ?_
        refine xa_callV (pc := 99) xm_o rfl rfl lcX8_266 dX8_asks_99 (cm_knownTo E _ (xm_wf_up (xm_wf_up (xm_wf_up hW rfl) rfl) rfl) rfl (by omega) _ _) rfl rfl (by decide) (Nat.le_of_ble_eq_true rfl) (by decide) ?_
        rintro _ _ _ ⟨rfl, rfl, rfl⟩
        refine xa_iastN (pc := 102) ((16 * wr) + x) dX8_asks_102 xm_181 rfl (xa_pa (xa_pm rfl hwr) rfl) (by show _ < 768; omega) (by decide) ?_
        refine xa_aload_n (pc := 103) dX8_asks_103 rfl ?_
        refine xa_getA (pc := 104) 8 51 182 lfX8_128 dX8_asks_104 xm_o rfl rfl rfl ?_
        refine xa_iload (pc := 107) dX8_asks_107 rfl ?_
        refine xa_iconst (pc := 109) (v := 1) dX8_asks_109 (by decide) ?_
        refine xa_aload_n (pc := 110) dX8_asks_110 rfl ?_
        refine xa_getA (pc := 111) 8 0 131 lfX8_9 dX8_asks_111 xm_o rfl rfl rfl ?_
        refine xa_iload_n (pc := 114) dX8_asks_114 rfl ?_
        refine xa_ialdN (pc := 115) h dX8_asks_115 xm_131 rfl rfl (by show _ < 12; omega) (by decide) ?_
        refine xa_ishl (pc := 116) dX8_asks_116 ?_
        refine xa_iastN (pc := 117) ((16 * wr) + x) dX8_asks_117 xm_182 rfl (xa_pa (xa_pm rfl hwr) rfl) (by show _ < 768; omega) (by decide) ?_
        refine xa_iinc (pc := 118) (v := nI (x + 1)) dX8_asks_118 rfl (by decide) (nI_1 _) ?_
        refine xa_goto (pc := 121) (tgt := 2) dX8_asks_121 (by decide) ?_
        exact xa_fgk (ih (by omega) _ (by rw [xa_lp, ← eT, xm_as1, if_neg (fun q => q.elim h19 (fun g => g h34))]; rfl)) (And.intro rfl (And.intro rfl (And.intro rfl (And.intro rfl trivial))))
      · refine xa_goto (pc := 37) (tgt := 118) dX8_asks_37 (by decide) ?_
        refine xa_iinc (pc := 118) (v := nI (x + 1)) dX8_asks_118 rfl (by decide) (nI_1 _) ?_
        refine xa_goto (pc := 121) (tgt := 2) dX8_asks_121 (by decide) ?_
        exact xa_fgk (ih (by omega) _ (by rw [xa_lp, ← eT, xm_as1, if_pos (Or.inr h34)])) (And.intro rfl (And.intro rfl (And.intro rfl (And.intro rfl trivial))))
set_option maxHeartbeats 4000000 in
theorem cm_asks (E : xa_EV) (S : xa_AH) {nh ns : Nat} (hW : xm_wf nh ns S) (hN : xm_nm nh S) {wr : Nat} (hwr0 : S 130 47 = nI wr) (hwl : wr < 24) {h : Nat} {xh : Int32} (eh : xh = nI h) (hh : h < 12) (t : Int32) : xa_Ct E mX8_asks [.ref 130, .int xh, .int t] xm_L S xm_R (xa_pV (xm_as ns h wr t S) xm_R) := by
  subst eh
  refine xa_Ct.of [some (.ref 130), some (.int (nI h)), some (.int t), none, none] rfl (Nat.le_of_ble_eq_true rfl) (by simp [Value.category]) rfl ?_
  obtain ⟨w1, w2, w3, w4, w5⟩ := id hW
  refine xa_iconst (pc := 0) (v := 0) dX8_asks_0 (by decide) ?_
  refine xa_istore_n (pc := 1) dX8_asks_1 (by decide) ?_
  exact lm_asks E S hW hN hh hwr0 hwl t 0 (Nat.zero_le _) _ rfl
def xm_te1 (h wr : Nat) (t : Int32) (s : Nat) (S : xa_AH) : xa_AH := if xm_spk S h s = true then (if ¬ S 151 s = 2 ∨ (¬ S 153 s ≤ t ∧ xm_in (S 163 (32 * h + s)) 0 t = false) then S else (xa_up (xa_up (xa_up (xa_up (xa_up S 153 s (t + S 150 s / 2)) 187 (32 * wr + s) (S 148 s)) 188 (32 * wr + s) (S 149 s)) 189 (32 * wr + s) (S 150 s)) 190 (32 * wr + s) (1 <<< (S 131 h &&& 31)))) else if ¬ S 138 h = 0 ∧ ¬ S 158 (32 * h + s) = 0 ∧ xm_in (S 163 (32 * h + s)) 0 t = true ∧ ¬ S 162 (32 * h + s) - t ≤ 1 then (xa_up (xa_up (xa_up (xa_up S 187 (32 * wr + s) (S 159 (32 * h + s))) 188 (32 * wr + s) (S 160 (32 * h + s))) 189 (32 * wr + s) (S 162 (32 * h + s) - t - 1)) 190 (32 * wr + s) (1 <<< (S 131 h &&& 31))) else S
def xm_te (ns h wr : Nat) (t : Int32) (S : xa_AH) : xa_AH := xa_lp (xm_te1 h wr t) ns S
theorem xm_wf_te1 {nh ns h wr x : Nat} {t : Int32} {S : xa_AH} (hw : xm_wf nh ns S) : xm_wf nh ns (xm_te1 h wr t x S) := by
  unfold xm_te1
  split
  · split
    · exact hw
    · exact (xm_wf_up (xm_wf_up (xm_wf_up (xm_wf_up (xm_wf_up hw rfl) rfl) rfl) rfl) rfl)
  · split
    · exact (xm_wf_up (xm_wf_up (xm_wf_up (xm_wf_up hw rfl) rfl) rfl) rfl)
    · exact hw
theorem xm_nm_te1 {nh h wr x : Nat} {t : Int32} {S : xa_AH} (hw : xm_nm nh S) : xm_nm nh (xm_te1 h wr t x S) := by
  unfold xm_te1
  split
  · split
    · exact hw
    · exact (xm_nm_up (xm_nm_up (xm_nm_up (xm_nm_up (xm_nm_up hw rfl) rfl) rfl) rfl) rfl)
  · split
    · exact (xm_nm_up (xm_nm_up (xm_nm_up (xm_nm_up hw rfl) rfl) rfl) rfl)
    · exact hw
theorem xm_wt_te1 {h wr x : Nat} {t : Int32} {S : xa_AH} {v : Int32} (hw : S 130 47 = v) : xm_te1 h wr t x S 130 47 = v := by
  unfold xm_te1; split
  · split
    · exact hw
    · exact hw
  · split
    · exact hw
    · exact hw
set_option maxHeartbeats 4000000 in
theorem lm_tells (E : xa_EV) (S : xa_AH) {nh ns : Nat} (hW0 : xm_wf nh ns S) (hN0 : xm_nm nh S) {h wr : Nat} (hh : h < 12) (hwr0 : S 130 47 = nI wr) (hwl : wr < 24) (t : Int32) : ∀ x, x ≤ ns → ∀ T, T = xa_lp (xm_te1 h wr t) x S → xa_W E mX8_tells (xa_Z E mX8_tells xm_L (xa_pV (xm_te ns h wr t S) xm_R)) 0 0 2 [some (.ref 130), some (.int (nI h)), some (.int t), some (.int (nI x)), none, none, none] [] xm_L T xm_R := by
  refine xa_dn (fun x hxl ih => ?_)
  intro T eT
  have hW : xm_wf nh ns T := by rw [eT]; exact xa_lp_inv hW0 (fun i U _ hU => xm_wf_te1 hU)
  have hN : xm_nm nh T := by rw [eT]; exact xa_lp_inv hN0 (fun i U _ hU => xm_nm_te1 hU)
  obtain ⟨w1, w2, w3, w4, w5⟩ := id hW
  have hwr : T 130 47 = nI wr := by rw [eT]; exact xa_lp_inv (I := fun U : xa_AH => U 130 47 = nI wr) hwr0 (fun i U _ hU => xm_wt_te1 hU)
  refine xa_iload_n (pc := 2) dX8_tells_2 rfl ?_
  refine xa_aload_n (pc := 3) dX8_tells_3 rfl ?_
  refine xa_getI (pc := 4) 8 26 lfX8_170 dX8_tells_4 xm_o rfl rfl ?_
  refine xa_icmpN_ge (pc := 7) 257 x ns dX8_tells_7 (by decide) rfl w4 (by omega) (by omega) (fun h7 => ?_) (fun h7 => ?_)
  · have g7 : ¬ (x < ns) := by omega
    have ex9 : x = ns := by omega
    subst ex9
    exact xa_vret dX8_tells_257 rfl ⟨rfl, eT.symm, rfl⟩
  · refine xa_bipush (pc := 10) (v := 32) dX8_tells_10 (by decide) ?_
    refine xa_iload_n (pc := 12) dX8_tells_12 rfl ?_
    refine xa_imul (pc := 13) dX8_tells_13 ?_
    refine xa_iload_n (pc := 14) dX8_tells_14 rfl ?_
    refine xa_iadd (pc := 15) dX8_tells_15 ?_
    refine xa_istore (pc := 16) dX8_tells_16 (by decide) ?_
    refine xa_aload_n (pc := 18) dX8_tells_18 rfl ?_
    refine xa_getA (pc := 19) 8 32 163 lfX8_101 dX8_tells_19 xm_o rfl rfl rfl ?_
    refine xa_iload (pc := 22) dX8_tells_22 rfl ?_
    refine xa_ialdN (pc := 24) ((32 * h) + x) dX8_tells_24 xm_163 rfl (xa_pa (xa_pm rfl rfl) rfl) (by show _ < 384; omega) (by decide) ?_
    refine xa_iconst (pc := 25) (v := 0) dX8_tells_25 (by decide) ?_
    refine xa_iload_n (pc := 26) dX8_tells_26 rfl ?_
    refine xa_callS (pc := 27) lcX8_159 dX8_tells_27 (cm_in E _ _ _ _ _ _) rfl rfl (by decide) (Nat.le_of_ble_eq_true rfl) (by decide) ?_
    rintro _ _ _ ⟨rfl, rfl, rfl⟩
    refine xa_istore (pc := 30) dX8_tells_30 (by decide) ?_
    refine xa_bipush (pc := 32) (v := 32) dX8_tells_32 (by decide) ?_
    refine xa_aload_n (pc := 34) dX8_tells_34 rfl ?_
    refine xa_getI (pc := 35) 8 47 lfX8_225 dX8_tells_35 xm_o rfl rfl ?_
    refine xa_imul (pc := 38) dX8_tells_38 ?_
    refine xa_iload_n (pc := 39) dX8_tells_39 rfl ?_
    refine xa_iadd (pc := 40) dX8_tells_40 ?_
    refine xa_istore (pc := 41) dX8_tells_41 (by decide) ?_
    refine xa_aload_n (pc := 43) dX8_tells_43 rfl ?_
    refine xa_iload_n (pc := 44) dX8_tells_44 rfl ?_
    refine xa_iload_n (pc := 45) dX8_tells_45 rfl ?_
    refine xa_callV (pc := 46) xm_o rfl rfl lcX8_270 dX8_tells_46 (cm_speaksFor E _ hW rfl rfl (by omega) (by omega)) rfl rfl (by decide) (Nat.le_of_ble_eq_true rfl) (by decide) ?_
    rintro _ _ _ ⟨rfl, rfl, rfl⟩
    refine xa_if_eq (pc := 49) 153 dX8_tells_49 (by decide) (fun h49 => ?_) (fun h49 => ?_)
    · have h49 := xa_b_0.mp h49
      refine xa_aload_n (pc := 153) dX8_tells_153 rfl ?_
      refine xa_getA (pc := 154) 8 7 138 lfX8_32 dX8_tells_154 xm_o rfl rfl rfl ?_
      refine xa_iload_n (pc := 157) dX8_tells_157 rfl ?_
      refine xa_zaldN (pc := 158) h dX8_tells_158 xm_138 rfl rfl (by show _ < 12; omega) (by decide) ?_
      refine xa_if_eq (pc := 159) 251 dX8_tells_159 (by decide) (fun h159 => ?_) (fun h159 => ?_)
      · refine xa_iinc (pc := 251) (v := nI (x + 1)) dX8_tells_251 rfl (by decide) (nI_1 _) ?_
        refine xa_goto (pc := 254) (tgt := 2) dX8_tells_254 (by decide) ?_
        exact xa_fgk (ih (by omega) _ (by rw [xa_lp, ← eT]; simp [xm_te1, h7, h49, h159] <;> rfl)) (And.intro rfl (And.intro rfl (And.intro rfl (And.intro rfl trivial))))
      · refine xa_aload_n (pc := 162) dX8_tells_162 rfl ?_
        refine xa_getA (pc := 163) 8 27 158 lfX8_86 dX8_tells_163 xm_o rfl rfl rfl ?_
        refine xa_iload (pc := 166) dX8_tells_166 rfl ?_
        refine xa_zaldN (pc := 168) ((32 * h) + x) dX8_tells_168 xm_158 rfl (xa_pa (xa_pm rfl rfl) rfl) (by show _ < 384; omega) (by decide) ?_
        refine xa_if_eq (pc := 169) 251 dX8_tells_169 (by decide) (fun h169 => ?_) (fun h169 => ?_)
        · refine xa_iinc (pc := 251) (v := nI (x + 1)) dX8_tells_251 rfl (by decide) (nI_1 _) ?_
          refine xa_goto (pc := 254) (tgt := 2) dX8_tells_254 (by decide) ?_
          exact xa_fgk (ih (by omega) _ (by rw [xa_lp, ← eT]; simp [xm_te1, h7, h49, h159, h169] <;> rfl)) (And.intro rfl (And.intro rfl (And.intro rfl (And.intro rfl trivial))))
        · refine xa_iload (pc := 172) dX8_tells_172 rfl ?_
          refine xa_if_eq (pc := 174) 251 dX8_tells_174 (by decide) (fun h174 => ?_) (fun h174 => ?_)
          · have h174 := xa_b_0.mp h174
            refine xa_iinc (pc := 251) (v := nI (x + 1)) dX8_tells_251 rfl (by decide) (nI_1 _) ?_
            refine xa_goto (pc := 254) (tgt := 2) dX8_tells_254 (by decide) ?_
            exact xa_fgk (ih (by omega) _ (by rw [xa_lp, ← eT]; simp [xm_te1, h7, h49, h159, h169, h174] <;> rfl)) (And.intro rfl (And.intro rfl (And.intro rfl (And.intro rfl trivial))))
          · have h174 := xa_b_n0.mp h174
            refine xa_aload_n (pc := 177) dX8_tells_177 rfl ?_
            refine xa_getA (pc := 178) 8 31 162 lfX8_98 dX8_tells_178 xm_o rfl rfl rfl ?_
            refine xa_iload (pc := 181) dX8_tells_181 rfl ?_
            refine xa_ialdN (pc := 183) ((32 * h) + x) dX8_tells_183 xm_162 rfl (xa_pa (xa_pm rfl rfl) rfl) (by show _ < 384; omega) (by decide) ?_
            refine xa_iload_n (pc := 184) dX8_tells_184 rfl ?_
            refine xa_isub (pc := 185) dX8_tells_185 ?_
            refine xa_iconst (pc := 186) (v := 1) dX8_tells_186 (by decide) ?_
            refine xa_icmp_le (pc := 187) 251 dX8_tells_187 (by decide) (fun h187 => ?_) (fun h187 => ?_)
            · refine xa_iinc (pc := 251) (v := nI (x + 1)) dX8_tells_251 rfl (by decide) (nI_1 _) ?_
              refine xa_goto (pc := 254) (tgt := 2) dX8_tells_254 (by decide) ?_
              exact xa_fgk (ih (by omega) _ (by rw [xa_lp, ← eT]; simp [xm_te1, h7, h49, h159, h169, h174, h187] <;> rfl)) (And.intro rfl (And.intro rfl (And.intro rfl (And.intro rfl trivial))))
            · refine xa_aload_n (pc := 190) dX8_tells_190 rfl ?_
              refine xa_getA (pc := 191) 8 56 187 lfX8_143 dX8_tells_191 xm_o rfl rfl rfl ?_
              refine xa_iload (pc := 194) dX8_tells_194 rfl ?_
              refine xa_aload_n (pc := 196) dX8_tells_196 rfl ?_
              refine xa_getA (pc := 197) 8 28 159 lfX8_89 dX8_tells_197 xm_o rfl rfl rfl ?_
              refine xa_iload (pc := 200) dX8_tells_200 rfl ?_
              refine xa_ialdN (pc := 202) ((32 * h) + x) dX8_tells_202 xm_159 rfl (xa_pa (xa_pm rfl rfl) rfl) (by show _ < 384; omega) (by decide) ?_
              refine xa_iastN (pc := 203) ((32 * wr) + x) dX8_tells_203 xm_187 rfl (xa_pa (xa_pm rfl hwr) rfl) (by show _ < 1536; omega) (by decide) ?_
              refine xa_aload_n (pc := 204) dX8_tells_204 rfl ?_
              refine xa_getA (pc := 205) 8 57 188 lfX8_146 dX8_tells_205 xm_o rfl rfl rfl ?_
              refine xa_iload (pc := 208) dX8_tells_208 rfl ?_
              refine xa_aload_n (pc := 210) dX8_tells_210 rfl ?_
              refine xa_getA (pc := 211) 8 29 160 lfX8_92 dX8_tells_211 xm_o rfl rfl rfl ?_
              refine xa_iload (pc := 214) dX8_tells_214 rfl ?_
              refine xa_ialdN (pc := 216) ((32 * h) + x) dX8_tells_216 xm_160 rfl (xa_pa (xa_pm rfl rfl) rfl) (by show _ < 384; omega) (by decide) ?_
              refine xa_iastN (pc := 217) ((32 * wr) + x) dX8_tells_217 xm_188 rfl (xa_pa (xa_pm rfl hwr) rfl) (by show _ < 1536; omega) (by decide) ?_
              refine xa_aload_n (pc := 218) dX8_tells_218 rfl ?_
              refine xa_getA (pc := 219) 8 58 189 lfX8_149 dX8_tells_219 xm_o rfl rfl rfl ?_
              refine xa_iload (pc := 222) dX8_tells_222 rfl ?_
              refine xa_aload_n (pc := 224) dX8_tells_224 rfl ?_
              refine xa_getA (pc := 225) 8 31 162 lfX8_98 dX8_tells_225 xm_o rfl rfl rfl ?_
              refine xa_iload (pc := 228) dX8_tells_228 rfl ?_
              refine xa_ialdN (pc := 230) ((32 * h) + x) dX8_tells_230 xm_162 rfl (xa_pa (xa_pm rfl rfl) rfl) (by show _ < 384; omega) (by decide) ?_
              refine xa_iload_n (pc := 231) dX8_tells_231 rfl ?_
              refine xa_isub (pc := 232) dX8_tells_232 ?_
              refine xa_iconst (pc := 233) (v := 1) dX8_tells_233 (by decide) ?_
              refine xa_isub (pc := 234) dX8_tells_234 ?_
              refine xa_iastN (pc := 235) ((32 * wr) + x) dX8_tells_235 xm_189 rfl (xa_pa (xa_pm rfl hwr) rfl) (by show _ < 1536; omega) (by decide) ?_
              refine xa_aload_n (pc := 236) dX8_tells_236 rfl ?_
              refine xa_getA (pc := 237) 8 59 190 lfX8_152 dX8_tells_237 xm_o rfl rfl rfl ?_
              refine xa_iload (pc := 240) dX8_tells_240 rfl ?_
              refine xa_iconst (pc := 242) (v := 1) dX8_tells_242 (by decide) ?_
              refine xa_aload_n (pc := 243) dX8_tells_243 rfl ?_
              refine xa_getA (pc := 244) 8 0 131 lfX8_9 dX8_tells_244 xm_o rfl rfl rfl ?_
              refine xa_iload_n (pc := 247) dX8_tells_247 rfl ?_
              refine xa_ialdN (pc := 248) h dX8_tells_248 xm_131 rfl rfl (by show _ < 12; omega) (by decide) ?_
              refine xa_ishl (pc := 249) dX8_tells_249 ?_
              refine xa_iastN (pc := 250) ((32 * wr) + x) dX8_tells_250 xm_190 rfl (xa_pa (xa_pm rfl hwr) rfl) (by show _ < 1536; omega) (by decide) ?_
              refine xa_iinc (pc := 251) (v := nI (x + 1)) dX8_tells_251 rfl (by decide) (nI_1 _) ?_
              refine xa_goto (pc := 254) (tgt := 2) dX8_tells_254 (by decide) ?_
              exact xa_fgk (ih (by omega) _ (by rw [xa_lp, ← eT]; simp [xm_te1, h7, h49, h159, h169, h174, h187] <;> rfl)) (And.intro rfl (And.intro rfl (And.intro rfl (And.intro rfl trivial))))
    · have h49 := xa_b_n0.mp h49
      refine xa_aload_n (pc := 52) dX8_tells_52 rfl ?_
      refine xa_getA (pc := 53) 8 20 151 lfX8_68 dX8_tells_53 xm_o rfl rfl rfl ?_
      refine xa_iload_n (pc := 56) dX8_tells_56 rfl ?_
      refine xa_ialdN (pc := 57) x dX8_tells_57 xm_151 rfl rfl (by show _ < 32; omega) (by decide) ?_
      refine xa_iconst (pc := 58) (v := 2) dX8_tells_58 (by decide) ?_
      refine xa_icmp_ne (pc := 59) 251 dX8_tells_59 (by decide) (fun h59 => ?_) (fun h59 => ?_)
      · refine xa_iinc (pc := 251) (v := nI (x + 1)) dX8_tells_251 rfl (by decide) (nI_1 _) ?_
        refine xa_goto (pc := 254) (tgt := 2) dX8_tells_254 (by decide) ?_
        exact xa_fgk (ih (by omega) _ (by rw [xa_lp, ← eT]; simp [xm_te1, h7, h49, h59] <;> rfl)) (And.intro rfl (And.intro rfl (And.intro rfl (And.intro rfl trivial))))
      · refine xa_aload_n (pc := 62) dX8_tells_62 rfl ?_
        refine xa_getA (pc := 63) 8 22 153 lfX8_74 dX8_tells_63 xm_o rfl rfl rfl ?_
        refine xa_iload_n (pc := 66) dX8_tells_66 rfl ?_
        refine xa_ialdN (pc := 67) x dX8_tells_67 xm_153 rfl rfl (by show _ < 32; omega) (by decide) ?_
        refine xa_iload_n (pc := 68) dX8_tells_68 rfl ?_
        refine xa_icmp_le (pc := 69) 80 dX8_tells_69 (by decide) (fun h69 => ?_) (fun h69 => ?_)
        · refine xa_aload_n (pc := 80) dX8_tells_80 rfl ?_
          refine xa_getA (pc := 81) 8 22 153 lfX8_74 dX8_tells_81 xm_o rfl rfl rfl ?_
          refine xa_iload_n (pc := 84) dX8_tells_84 rfl ?_
          refine xa_iload_n (pc := 85) dX8_tells_85 rfl ?_
          refine xa_aload_n (pc := 86) dX8_tells_86 rfl ?_
          refine xa_getA (pc := 87) 8 19 150 lfX8_65 dX8_tells_87 xm_o rfl rfl rfl ?_
          refine xa_iload_n (pc := 90) dX8_tells_90 rfl ?_
          refine xa_ialdN (pc := 91) x dX8_tells_91 xm_150 rfl rfl (by show _ < 32; omega) (by decide) ?_
          refine xa_iconst (pc := 92) (v := 2) dX8_tells_92 (by decide) ?_
          refine xa_idiv (pc := 93) dX8_tells_93 (by decide) ?_
          refine xa_iadd (pc := 94) dX8_tells_94 ?_
          refine xa_iastN (pc := 95) x dX8_tells_95 xm_153 rfl rfl (by show _ < 32; omega) (by decide) ?_
          refine xa_aload_n (pc := 96) dX8_tells_96 rfl ?_
          refine xa_getA (pc := 97) 8 56 187 lfX8_143 dX8_tells_97 xm_o rfl rfl rfl ?_
          refine xa_iload (pc := 100) dX8_tells_100 rfl ?_
          refine xa_aload_n (pc := 102) dX8_tells_102 rfl ?_
          refine xa_getA (pc := 103) 8 17 148 lfX8_59 dX8_tells_103 xm_o rfl rfl rfl ?_
          refine xa_iload_n (pc := 106) dX8_tells_106 rfl ?_
          refine xa_ialdN (pc := 107) x dX8_tells_107 xm_148 rfl rfl (by show _ < 32; omega) (by decide) ?_
          refine xa_iastN (pc := 108) ((32 * wr) + x) dX8_tells_108 xm_187 rfl (xa_pa (xa_pm rfl hwr) rfl) (by show _ < 1536; omega) (by decide) ?_
          refine xa_aload_n (pc := 109) dX8_tells_109 rfl ?_
          refine xa_getA (pc := 110) 8 57 188 lfX8_146 dX8_tells_110 xm_o rfl rfl rfl ?_
          refine xa_iload (pc := 113) dX8_tells_113 rfl ?_
          refine xa_aload_n (pc := 115) dX8_tells_115 rfl ?_
          refine xa_getA (pc := 116) 8 18 149 lfX8_62 dX8_tells_116 xm_o rfl rfl rfl ?_
          refine xa_iload_n (pc := 119) dX8_tells_119 rfl ?_
          refine xa_ialdN (pc := 120) x dX8_tells_120 xm_149 rfl rfl (by show _ < 32; omega) (by decide) ?_
          refine xa_iastN (pc := 121) ((32 * wr) + x) dX8_tells_121 xm_188 rfl (xa_pa (xa_pm rfl hwr) rfl) (by show _ < 1536; omega) (by decide) ?_
          refine xa_aload_n (pc := 122) dX8_tells_122 rfl ?_
          refine xa_getA (pc := 123) 8 58 189 lfX8_149 dX8_tells_123 xm_o rfl rfl rfl ?_
          refine xa_iload (pc := 126) dX8_tells_126 rfl ?_
          refine xa_aload_n (pc := 128) dX8_tells_128 rfl ?_
          refine xa_getA (pc := 129) 8 19 150 lfX8_65 dX8_tells_129 xm_o rfl rfl rfl ?_
          refine xa_iload_n (pc := 132) dX8_tells_132 rfl ?_
          refine xa_ialdN (pc := 133) x dX8_tells_133 xm_150 rfl rfl (by show _ < 32; omega) (by decide) ?_
          refine xa_iastN (pc := 134) ((32 * wr) + x) dX8_tells_134 xm_189 rfl (xa_pa (xa_pm rfl hwr) rfl) (by show _ < 1536; omega) (by decide) ?_
          refine xa_aload_n (pc := 135) dX8_tells_135 rfl ?_
          refine xa_getA (pc := 136) 8 59 190 lfX8_152 dX8_tells_136 xm_o rfl rfl rfl ?_
          refine xa_iload (pc := 139) dX8_tells_139 rfl ?_
          refine xa_iconst (pc := 141) (v := 1) dX8_tells_141 (by decide) ?_
          refine xa_aload_n (pc := 142) dX8_tells_142 rfl ?_
          refine xa_getA (pc := 143) 8 0 131 lfX8_9 dX8_tells_143 xm_o rfl rfl rfl ?_
          refine xa_iload_n (pc := 146) dX8_tells_146 rfl ?_
          refine xa_ialdN (pc := 147) h dX8_tells_147 xm_131 rfl rfl (by show _ < 12; omega) (by decide) ?_
          refine xa_ishl (pc := 148) dX8_tells_148 ?_
          refine xa_iastN (pc := 149) ((32 * wr) + x) dX8_tells_149 xm_190 rfl (xa_pa (xa_pm rfl hwr) rfl) (by show _ < 1536; omega) (by decide) ?_
          refine xa_goto (pc := 150) (tgt := 251) dX8_tells_150 (by decide) ?_
          refine xa_iinc (pc := 251) (v := nI (x + 1)) dX8_tells_251 rfl (by decide) (nI_1 _) ?_
          refine xa_goto (pc := 254) (tgt := 2) dX8_tells_254 (by decide) ?_
          exact xa_fgk (ih (by omega) _ (by rw [xa_lp, ← eT]; simp [xm_te1, h7, h49, h59, h69] <;> rfl)) (And.intro rfl (And.intro rfl (And.intro rfl (And.intro rfl trivial))))
        · refine xa_iload (pc := 72) dX8_tells_72 rfl ?_
          refine xa_if_ne (pc := 74) 80 dX8_tells_74 (by decide) (fun h74 => ?_) (fun h74 => ?_)
          · have h74 := xa_b_n0.mp h74
            refine xa_aload_n (pc := 80) dX8_tells_80 rfl ?_
            refine xa_getA (pc := 81) 8 22 153 lfX8_74 dX8_tells_81 xm_o rfl rfl rfl ?_
            refine xa_iload_n (pc := 84) dX8_tells_84 rfl ?_
            refine xa_iload_n (pc := 85) dX8_tells_85 rfl ?_
            refine xa_aload_n (pc := 86) dX8_tells_86 rfl ?_
            refine xa_getA (pc := 87) 8 19 150 lfX8_65 dX8_tells_87 xm_o rfl rfl rfl ?_
            refine xa_iload_n (pc := 90) dX8_tells_90 rfl ?_
            refine xa_ialdN (pc := 91) x dX8_tells_91 xm_150 rfl rfl (by show _ < 32; omega) (by decide) ?_
            refine xa_iconst (pc := 92) (v := 2) dX8_tells_92 (by decide) ?_
            refine xa_idiv (pc := 93) dX8_tells_93 (by decide) ?_
            refine xa_iadd (pc := 94) dX8_tells_94 ?_
            refine xa_iastN (pc := 95) x dX8_tells_95 xm_153 rfl rfl (by show _ < 32; omega) (by decide) ?_
            refine xa_aload_n (pc := 96) dX8_tells_96 rfl ?_
            refine xa_getA (pc := 97) 8 56 187 lfX8_143 dX8_tells_97 xm_o rfl rfl rfl ?_
            refine xa_iload (pc := 100) dX8_tells_100 rfl ?_
            refine xa_aload_n (pc := 102) dX8_tells_102 rfl ?_
            refine xa_getA (pc := 103) 8 17 148 lfX8_59 dX8_tells_103 xm_o rfl rfl rfl ?_
            refine xa_iload_n (pc := 106) dX8_tells_106 rfl ?_
            refine xa_ialdN (pc := 107) x dX8_tells_107 xm_148 rfl rfl (by show _ < 32; omega) (by decide) ?_
            refine xa_iastN (pc := 108) ((32 * wr) + x) dX8_tells_108 xm_187 rfl (xa_pa (xa_pm rfl hwr) rfl) (by show _ < 1536; omega) (by decide) ?_
            refine xa_aload_n (pc := 109) dX8_tells_109 rfl ?_
            refine xa_getA (pc := 110) 8 57 188 lfX8_146 dX8_tells_110 xm_o rfl rfl rfl ?_
            refine xa_iload (pc := 113) dX8_tells_113 rfl ?_
            refine xa_aload_n (pc := 115) dX8_tells_115 rfl ?_
            refine xa_getA (pc := 116) 8 18 149 lfX8_62 dX8_tells_116 xm_o rfl rfl rfl ?_
            refine xa_iload_n (pc := 119) dX8_tells_119 rfl ?_
            refine xa_ialdN (pc := 120) x dX8_tells_120 xm_149 rfl rfl (by show _ < 32; omega) (by decide) ?_
            refine xa_iastN (pc := 121) ((32 * wr) + x) dX8_tells_121 xm_188 rfl (xa_pa (xa_pm rfl hwr) rfl) (by show _ < 1536; omega) (by decide) ?_
            refine xa_aload_n (pc := 122) dX8_tells_122 rfl ?_
            refine xa_getA (pc := 123) 8 58 189 lfX8_149 dX8_tells_123 xm_o rfl rfl rfl ?_
            refine xa_iload (pc := 126) dX8_tells_126 rfl ?_
            refine xa_aload_n (pc := 128) dX8_tells_128 rfl ?_
            refine xa_getA (pc := 129) 8 19 150 lfX8_65 dX8_tells_129 xm_o rfl rfl rfl ?_
            refine xa_iload_n (pc := 132) dX8_tells_132 rfl ?_
            refine xa_ialdN (pc := 133) x dX8_tells_133 xm_150 rfl rfl (by show _ < 32; omega) (by decide) ?_
            refine xa_iastN (pc := 134) ((32 * wr) + x) dX8_tells_134 xm_189 rfl (xa_pa (xa_pm rfl hwr) rfl) (by show _ < 1536; omega) (by decide) ?_
            refine xa_aload_n (pc := 135) dX8_tells_135 rfl ?_
            refine xa_getA (pc := 136) 8 59 190 lfX8_152 dX8_tells_136 xm_o rfl rfl rfl ?_
            refine xa_iload (pc := 139) dX8_tells_139 rfl ?_
            refine xa_iconst (pc := 141) (v := 1) dX8_tells_141 (by decide) ?_
            refine xa_aload_n (pc := 142) dX8_tells_142 rfl ?_
            refine xa_getA (pc := 143) 8 0 131 lfX8_9 dX8_tells_143 xm_o rfl rfl rfl ?_
            refine xa_iload_n (pc := 146) dX8_tells_146 rfl ?_
            refine xa_ialdN (pc := 147) h dX8_tells_147 xm_131 rfl rfl (by show _ < 12; omega) (by decide) ?_
            refine xa_ishl (pc := 148) dX8_tells_148 ?_
            refine xa_iastN (pc := 149) ((32 * wr) + x) dX8_tells_149 xm_190 rfl (xa_pa (xa_pm rfl hwr) rfl) (by show _ < 1536; omega) (by decide) ?_
            refine xa_goto (pc := 150) (tgt := 251) dX8_tells_150 (by decide) ?_
            refine xa_iinc (pc := 251) (v := nI (x + 1)) dX8_tells_251 rfl (by decide) (nI_1 _) ?_
            refine xa_goto (pc := 254) (tgt := 2) dX8_tells_254 (by decide) ?_
            exact xa_fgk (ih (by omega) _ (by rw [xa_lp, ← eT]; simp [xm_te1, h7, h49, h59, h69, h74] <;> rfl)) (And.intro rfl (And.intro rfl (And.intro rfl (And.intro rfl trivial))))
          · have h74 := xa_b_0.mp h74
            refine xa_goto (pc := 77) (tgt := 251) dX8_tells_77 (by decide) ?_
            refine xa_iinc (pc := 251) (v := nI (x + 1)) dX8_tells_251 rfl (by decide) (nI_1 _) ?_
            refine xa_goto (pc := 254) (tgt := 2) dX8_tells_254 (by decide) ?_
            exact xa_fgk (ih (by omega) _ (by rw [xa_lp, ← eT]; simp [xm_te1, h7, h49, h59, h69, h74] <;> rfl)) (And.intro rfl (And.intro rfl (And.intro rfl (And.intro rfl trivial))))
set_option maxHeartbeats 4000000 in
theorem cm_tells (E : xa_EV) (S : xa_AH) {nh ns : Nat} (hW : xm_wf nh ns S) (hN : xm_nm nh S) {wr : Nat} (hwr0 : S 130 47 = nI wr) (hwl : wr < 24) {h : Nat} {xh : Int32} (eh : xh = nI h) (hh : h < 12) (t : Int32) : xa_Ct E mX8_tells [.ref 130, .int xh, .int t] xm_L S xm_R (xa_pV (xm_te ns h wr t S) xm_R) := by
  subst eh
  refine xa_Ct.of [some (.ref 130), some (.int (nI h)), some (.int t), none, none, none, none] rfl (Nat.le_of_ble_eq_true rfl) (by simp [Value.category]) rfl ?_
  obtain ⟨w1, w2, w3, w4, w5⟩ := id hW
  refine xa_iconst (pc := 0) (v := 0) dX8_tells_0 (by decide) ?_
  refine xa_istore_n (pc := 1) dX8_tells_1 (by decide) ?_
  exact lm_tells E S hW hN hh hwr0 hwl t 0 (Nat.zero_le _) _ rfl
