set_option maxHeartbeats 4000000 in
theorem lm_ht186 (E : xa_EV) (S : xa_AH) {nh ns : Nat} (hW : xm_wf nh ns S) (hN : xm_nm nh S) {h s row : Nat} (hh : h < 12) (hsn : s < ns) (hrow : row < 1536) (n d t : Int32) : xa_W E mX8_hearsTelling (xa_Z E mX8_hearsTelling xm_L (xa_pV (xm_htC ns h s row n d t S) xm_R)) 0 0 186 [some (.ref 130), some (.int (nI h)), some (.int (nI s)), some (.int (nI row)), some (.int t), some (.int n), some (.int d), some (.int (nI (32 * h + s))), none, none] [] xm_L S xm_R := by
  obtain ⟨w1, w2, w3, w4, w5⟩ := id hW
  refine xa_aload_n (pc := 186) dX8_hearsTelling_186 rfl ?_
  refine xa_getA (pc := 187) 8 15 146 lfX8_53 dX8_hearsTelling_187 xm_o rfl rfl rfl ?_
  refine xa_iload_n (pc := 190) dX8_hearsTelling_190 rfl ?_
  refine xa_ialdN (pc := 191) s dX8_hearsTelling_191 xm_146 rfl rfl (by show _ < 32; omega) (by decide) ?_
  refine xa_iload_n (pc := 192) dX8_hearsTelling_192 rfl ?_
  refine xa_icmp_ne (pc := 193) 197 dX8_hearsTelling_193 (by decide) (fun h193 => ?_) (fun h193 => ?_)
  · refine xa_iconst (pc := 197) (v := 0) dX8_hearsTelling_197 (by decide) ?_
    refine xa_istore (pc := 198) dX8_hearsTelling_198 (by decide) ?_
    rw [xm_htC, if_neg h193]
    exact xa_fgk (lm_ht200 E S hW hN hh hsn hrow n d t 0 (Nat.zero_le _) (fun i hi => absurd hi (Nat.not_lt_zero i)) S rfl) (And.intro rfl (And.intro rfl (And.intro rfl (And.intro rfl (And.intro rfl (And.intro rfl (And.intro rfl (And.intro rfl (And.intro rfl trivial)))))))))
  · rw [xm_htC, if_pos h193]
    exact xa_vret dX8_hearsTelling_196 rfl ⟨rfl, rfl, rfl⟩
set_option maxHeartbeats 4000000 in
theorem lm_ht157 (E : xa_EV) (S : xa_AH) {nh ns : Nat} (hW : xm_wf nh ns S) (hN : xm_nm nh S) {h s row : Nat} (hh : h < 12) (hsn : s < ns) (hrow : row < 1536) (n d t : Int32) : xa_W E mX8_hearsTelling (xa_Z E mX8_hearsTelling xm_L (xa_pV (xm_htD ns h s row n d t S) xm_R)) 0 0 157 [some (.ref 130), some (.int (nI h)), some (.int (nI s)), some (.int (nI row)), some (.int t), some (.int n), some (.int d), none, none, none] [] xm_L S xm_R := by
  obtain ⟨w1, w2, w3, w4, w5⟩ := id hW
  refine xa_bipush (pc := 157) (v := 32) dX8_hearsTelling_157 (by decide) ?_
  refine xa_iload_n (pc := 159) dX8_hearsTelling_159 rfl ?_
  refine xa_imul (pc := 160) dX8_hearsTelling_160 ?_
  refine xa_iload_n (pc := 161) dX8_hearsTelling_161 rfl ?_
  refine xa_iadd (pc := 162) dX8_hearsTelling_162 ?_
  refine xa_istore (pc := 163) dX8_hearsTelling_163 (by decide) ?_
  refine xa_iconst (pc := 165) (v := 2) dX8_hearsTelling_165 (by decide) ?_
  refine xa_iload (pc := 166) dX8_hearsTelling_166 rfl ?_
  refine xa_imul (pc := 168) dX8_hearsTelling_168 ?_
  refine xa_aload_n (pc := 169) dX8_hearsTelling_169 rfl ?_
  refine xa_getA (pc := 170) 8 19 150 lfX8_65 dX8_hearsTelling_170 xm_o rfl rfl rfl ?_
  refine xa_iload_n (pc := 173) dX8_hearsTelling_173 rfl ?_
  refine xa_ialdN (pc := 174) s dX8_hearsTelling_174 xm_150 rfl rfl (by show _ < 32; omega) (by decide) ?_
  refine xa_icmp_lt (pc := 175) 186 dX8_hearsTelling_175 (by decide) (fun h175 => ?_) (fun h175 => ?_)
  · rw [xm_htD, if_pos h175]
    exact xa_fgk (lm_ht186 E S hW hN hh hsn hrow n d t) (And.intro rfl (And.intro rfl (And.intro rfl (And.intro rfl (And.intro rfl (And.intro rfl (And.intro rfl (And.intro (congrArg (fun z => some (Value.int z)) (xa_pa (xa_pm rfl rfl) rfl)) trivial))))))))
  · refine xa_aload_n (pc := 178) dX8_hearsTelling_178 rfl ?_
    refine xa_getA (pc := 179) 8 32 163 lfX8_101 dX8_hearsTelling_179 xm_o rfl rfl rfl ?_
    refine xa_iload (pc := 182) dX8_hearsTelling_182 rfl ?_
    refine xa_iconst (pc := 184) (v := (-1)) dX8_hearsTelling_184 (by decide) ?_
    refine xa_iastN (pc := 185) ((32 * h) + s) dX8_hearsTelling_185 xm_163 rfl (xa_pa (xa_pm rfl rfl) rfl) (by show _ < 384; omega) (by decide) ?_
    rw [xm_htD, if_neg h175]
    exact xa_fgk (lm_ht186 E (xa_up S 163 (32 * h + s) (-1)) (xm_wf_up hW rfl) (xm_nm_up hN rfl) hh hsn hrow n d t) (And.intro rfl (And.intro rfl (And.intro rfl (And.intro rfl (And.intro rfl (And.intro rfl (And.intro rfl (And.intro (congrArg (fun z => some (Value.int z)) (xa_pa (xa_pm rfl rfl) rfl)) trivial))))))))
set_option maxHeartbeats 4000000 in
theorem lm_ht60 (E : xa_EV) (S : xa_AH) {nh ns : Nat} (hW0 : xm_wf nh ns S) (hN0 : xm_nm nh S) {h s row : Nat} (hh : h < 12) (hsn : s < ns) (hrow : row < 1536) (n d t : Int32) : ∀ x, x ≤ ns → ∀ T, T = xa_lp (xm_ht1 ns h s n t) x S → xa_W E mX8_hearsTelling (xa_Z E mX8_hearsTelling xm_L (xa_pV (xm_htD ns h s row n d t (xa_lp (xm_ht1 ns h s n t) ns S)) xm_R)) 0 0 60 [some (.ref 130), some (.int (nI h)), some (.int (nI s)), some (.int (nI row)), some (.int t), some (.int n), some (.int d), some (.int (nI x)), none, none] [] xm_L T xm_R := by
  refine xa_dn (fun x hxl ih => ?_)
  intro T eT
  have hW : xm_wf nh ns T := by rw [eT]; exact xa_lp_inv hW0 (fun i U _ hU => xm_wf_ht1 hU)
  have hN : xm_nm nh T := by rw [eT]; exact xa_lp_inv hN0 (fun i U _ hU => xm_nm_ht1 hU)
  obtain ⟨w1, w2, w3, w4, w5⟩ := id hW
  refine xa_iload (pc := 60) dX8_hearsTelling_60 rfl ?_
  refine xa_aload_n (pc := 62) dX8_hearsTelling_62 rfl ?_
  refine xa_getI (pc := 63) 8 26 lfX8_170 dX8_hearsTelling_63 xm_o rfl rfl ?_
  refine xa_icmpN_ge (pc := 66) 157 x ns dX8_hearsTelling_66 (by decide) rfl w4 (by omega) (by omega) (fun h66 => ?_) (fun h66 => ?_)
  · have g66 : ¬ (x < ns) := by omega
    have ex9 : x = ns := by omega
    subst ex9
    rw [← eT]
    exact xa_fgk (lm_ht157 E T hW hN hh hsn hrow n d t) (And.intro rfl (And.intro rfl (And.intro rfl (And.intro rfl (And.intro rfl (And.intro rfl (And.intro rfl trivial)))))))
  · refine xa_iload (pc := 69) dX8_hearsTelling_69 rfl ?_
    refine xa_iload_n (pc := 71) dX8_hearsTelling_71 rfl ?_
    refine xa_icmpN_eq (pc := 72) 151 x s dX8_hearsTelling_72 (by decide) rfl rfl (by omega) (by omega) (fun h72 => ?_) (fun h72 => ?_)
    · refine xa_iinc (pc := 151) (v := nI (x + 1)) dX8_hearsTelling_151 rfl (by decide) (nI_1 _) ?_
      refine xa_goto (pc := 154) (tgt := 60) dX8_hearsTelling_154 (by decide) ?_
      exact xa_fgk (ih (by omega) _ (by rw [xa_lp, ← eT]; simp [xm_ht1, h66, h72])) (And.intro rfl (And.intro rfl (And.intro rfl (And.intro rfl (And.intro rfl (And.intro rfl (And.intro rfl (And.intro rfl trivial))))))))
    · refine xa_aload_n (pc := 75) dX8_hearsTelling_75 rfl ?_
      refine xa_getA (pc := 76) 8 25 156 lfX8_83 dX8_hearsTelling_76 xm_o rfl rfl rfl ?_
      refine xa_iload (pc := 79) dX8_hearsTelling_79 rfl ?_
      refine xa_zaldN (pc := 81) x dX8_hearsTelling_81 xm_156 rfl rfl (by show _ < 32; omega) (by decide) ?_
      refine xa_if_ne (pc := 82) 151 dX8_hearsTelling_82 (by decide) (fun h82 => ?_) (fun h82 => ?_)
      · refine xa_iinc (pc := 151) (v := nI (x + 1)) dX8_hearsTelling_151 rfl (by decide) (nI_1 _) ?_
        refine xa_goto (pc := 154) (tgt := 60) dX8_hearsTelling_154 (by decide) ?_
        exact xa_fgk (ih (by omega) _ (by rw [xa_lp, ← eT]; simp [xm_ht1, h66, h72, h82])) (And.intro rfl (And.intro rfl (And.intro rfl (And.intro rfl (And.intro rfl (And.intro rfl (And.intro rfl (And.intro rfl trivial))))))))
      · refine xa_aload_n (pc := 85) dX8_hearsTelling_85 rfl ?_
        refine xa_iload_n (pc := 86) dX8_hearsTelling_86 rfl ?_
        refine xa_iload (pc := 87) dX8_hearsTelling_87 rfl ?_
        refine xa_callV (pc := 89) xm_o rfl rfl lcX8_270 dX8_hearsTelling_89 (cm_speaksFor E _ hW rfl rfl (by omega) (by omega)) rfl rfl (by decide) (Nat.le_of_ble_eq_true rfl) (by decide) ?_
        rintro _ _ _ ⟨rfl, rfl, rfl⟩
        refine xa_if_eq (pc := 92) 151 dX8_hearsTelling_92 (by decide) (fun h92 => ?_) (fun h92 => ?_)
        · have h92 := xa_b_0.mp h92
          refine xa_iinc (pc := 151) (v := nI (x + 1)) dX8_hearsTelling_151 rfl (by decide) (nI_1 _) ?_
          refine xa_goto (pc := 154) (tgt := 60) dX8_hearsTelling_154 (by decide) ?_
          exact xa_fgk (ih (by omega) _ (by rw [xa_lp, ← eT]; simp [xm_ht1, h66, h72, h82, h92])) (And.intro rfl (And.intro rfl (And.intro rfl (And.intro rfl (And.intro rfl (And.intro rfl (And.intro rfl (And.intro rfl trivial))))))))
        · have h92 := xa_b_n0.mp h92
          refine xa_aload_n (pc := 95) dX8_hearsTelling_95 rfl ?_
          refine xa_getA (pc := 96) 8 17 148 lfX8_59 dX8_hearsTelling_96 xm_o rfl rfl rfl ?_
          refine xa_iload (pc := 99) dX8_hearsTelling_99 rfl ?_
          refine xa_ialdN (pc := 101) x dX8_hearsTelling_101 xm_148 rfl rfl (by show _ < 32; omega) (by decide) ?_
          refine xa_iload (pc := 102) dX8_hearsTelling_102 rfl ?_
          refine xa_icmp_eq (pc := 104) 110 dX8_hearsTelling_104 (by decide) (fun h104 => ?_) (fun h104 => ?_)
          · refine xa_aload_n (pc := 110) dX8_hearsTelling_110 rfl ?_
            refine xa_getA (pc := 111) 8 20 151 lfX8_68 dX8_hearsTelling_111 xm_o rfl rfl rfl ?_
            refine xa_iload (pc := 114) dX8_hearsTelling_114 rfl ?_
            refine xa_ialdN (pc := 116) x dX8_hearsTelling_116 xm_151 rfl rfl (by show _ < 32; omega) (by decide) ?_
            refine xa_iconst (pc := 117) (v := 1) dX8_hearsTelling_117 (by decide) ?_
            refine xa_icmp_eq (pc := 118) 131 dX8_hearsTelling_118 (by decide) (fun h118 => ?_) (fun h118 => ?_)
            · refine xa_aload_n (pc := 131) dX8_hearsTelling_131 rfl ?_
              refine xa_iload (pc := 132) dX8_hearsTelling_132 rfl ?_
              refine xa_callV (pc := 134) xm_o rfl rfl lcX8_308 dX8_hearsTelling_134 (cm_yieldsName E _ hW hN rfl (by omega)) rfl rfl (by decide) (Nat.le_of_ble_eq_true rfl) (by decide) ?_
              rintro _ _ _ ⟨rfl, rfl, rfl⟩
              refine xa_goto (pc := 137) (tgt := 151) dX8_hearsTelling_137 (by decide) ?_
              refine xa_iinc (pc := 151) (v := nI (x + 1)) dX8_hearsTelling_151 rfl (by decide) (nI_1 _) ?_
              refine xa_goto (pc := 154) (tgt := 60) dX8_hearsTelling_154 (by decide) ?_
              exact xa_fgk (ih (by omega) _ (by rw [xa_lp, ← eT]; simp [xm_ht1, h66, h72, h82, h92, h104, h118])) (And.intro rfl (And.intro rfl (And.intro rfl (And.intro rfl (And.intro rfl (And.intro rfl (And.intro rfl (And.intro rfl trivial))))))))
            · refine xa_aload_n (pc := 121) dX8_hearsTelling_121 rfl ?_
              refine xa_iload_n (pc := 122) dX8_hearsTelling_122 rfl ?_
              refine xa_iload (pc := 123) dX8_hearsTelling_123 rfl ?_
              refine xa_callV (pc := 125) xm_o rfl rfl lcX8_305 dX8_hearsTelling_125 (cm_isStronger E _ hW rfl rfl (by omega) (by omega)) rfl rfl (by decide) (Nat.le_of_ble_eq_true rfl) (by decide) ?_
              rintro _ _ _ ⟨rfl, rfl, rfl⟩
              refine xa_if_eq (pc := 128) 140 dX8_hearsTelling_128 (by decide) (fun h128 => ?_) (fun h128 => ?_)
              · have h128 := xa_b_0.mp h128
                refine xa_aload_n (pc := 140) dX8_hearsTelling_140 rfl ?_
                refine xa_iload_n (pc := 141) dX8_hearsTelling_141 rfl ?_
                refine xa_iload (pc := 142) dX8_hearsTelling_142 rfl ?_
                refine xa_iload (pc := 144) dX8_hearsTelling_144 rfl ?_
                refine xa_iconst (pc := 146) (v := 1) dX8_hearsTelling_146 (by decide) ?_
                refine xa_iadd (pc := 147) dX8_hearsTelling_147 ?_
                refine xa_callV (pc := 148) xm_o rfl rfl lcX8_302 dX8_hearsTelling_148 (cm_isDue E _ rfl rfl (by omega) (by omega) _) rfl rfl (by decide) (Nat.le_of_ble_eq_true rfl) (by decide) ?_
                rintro _ _ _ ⟨rfl, rfl, rfl⟩
                refine xa_iinc (pc := 151) (v := nI (x + 1)) dX8_hearsTelling_151 rfl (by decide) (nI_1 _) ?_
                refine xa_goto (pc := 154) (tgt := 60) dX8_hearsTelling_154 (by decide) ?_
                exact xa_fgk (ih (by omega) _ (by rw [xa_lp, ← eT]; simp [xm_ht1, h66, h72, h82, h92, h104, h118, h128])) (And.intro rfl (And.intro rfl (And.intro rfl (And.intro rfl (And.intro rfl (And.intro rfl (And.intro rfl (And.intro rfl trivial))))))))
              · have h128 := xa_b_n0.mp h128
                refine xa_aload_n (pc := 131) dX8_hearsTelling_131 rfl ?_
                refine xa_iload (pc := 132) dX8_hearsTelling_132 rfl ?_
                refine xa_callV (pc := 134) xm_o rfl rfl lcX8_308 dX8_hearsTelling_134 (cm_yieldsName E _ hW hN rfl (by omega)) rfl rfl (by decide) (Nat.le_of_ble_eq_true rfl) (by decide) ?_
                rintro _ _ _ ⟨rfl, rfl, rfl⟩
                refine xa_goto (pc := 137) (tgt := 151) dX8_hearsTelling_137 (by decide) ?_
                refine xa_iinc (pc := 151) (v := nI (x + 1)) dX8_hearsTelling_151 rfl (by decide) (nI_1 _) ?_
                refine xa_goto (pc := 154) (tgt := 60) dX8_hearsTelling_154 (by decide) ?_
                exact xa_fgk (ih (by omega) _ (by rw [xa_lp, ← eT]; simp [xm_ht1, h66, h72, h82, h92, h104, h118, h128])) (And.intro rfl (And.intro rfl (And.intro rfl (And.intro rfl (And.intro rfl (And.intro rfl (And.intro rfl (And.intro rfl trivial))))))))
          · refine xa_goto (pc := 107) (tgt := 151) dX8_hearsTelling_107 (by decide) ?_
            refine xa_iinc (pc := 151) (v := nI (x + 1)) dX8_hearsTelling_151 rfl (by decide) (nI_1 _) ?_
            refine xa_goto (pc := 154) (tgt := 60) dX8_hearsTelling_154 (by decide) ?_
            exact xa_fgk (ih (by omega) _ (by rw [xa_lp, ← eT]; simp [xm_ht1, h66, h72, h82, h92, h104])) (And.intro rfl (And.intro rfl (And.intro rfl (And.intro rfl (And.intro rfl (And.intro rfl (And.intro rfl (And.intro rfl trivial))))))))
set_option maxHeartbeats 4000000 in
theorem cm_hearsTelling (E : xa_EV) (S : xa_AH) {nh ns : Nat} (hW : xm_wf nh ns S) (hN : xm_nm nh S) {h : Nat} {xh : Int32} (eh : xh = nI h) {s : Nat} {xs : Int32} (es : xs = nI s) {row : Nat} {xrow : Int32} (erow : xrow = nI row) (hh : h < 12) (hsn : s < ns) (hrow : row < 1536) (t : Int32) : xa_Ct E mX8_hearsTelling [.ref 130, .int xh, .int xs, .int xrow, .int t] xm_L S xm_R (xa_pV (xm_ht ns h s row t S) xm_R) := by
  subst eh; subst es; subst erow
  refine xa_Ct.of [some (.ref 130), some (.int (nI h)), some (.int (nI s)), some (.int (nI row)), some (.int t), none, none, none, none, none] rfl (Nat.le_of_ble_eq_true rfl) (by simp [Value.category]) rfl ?_
  obtain ⟨w1, w2, w3, w4, w5⟩ := id hW
  have hbo : xc (S 146 s) < nh := xa_in_lt (w5 s hsn)
  refine xa_aload_n (pc := 0) dX8_hearsTelling_0 rfl ?_
  refine xa_getA (pc := 1) 8 56 187 lfX8_143 dX8_hearsTelling_1 xm_o rfl rfl rfl ?_
  refine xa_iload_n (pc := 4) dX8_hearsTelling_4 rfl ?_
  refine xa_ialdN (pc := 5) row dX8_hearsTelling_5 xm_187 rfl rfl (by show _ < 1536; omega) (by decide) ?_
  refine xa_istore (pc := 6) dX8_hearsTelling_6 (by decide) ?_
  refine xa_aload_n (pc := 8) dX8_hearsTelling_8 rfl ?_
  refine xa_getA (pc := 9) 8 58 189 lfX8_149 dX8_hearsTelling_9 xm_o rfl rfl rfl ?_
  refine xa_iload_n (pc := 12) dX8_hearsTelling_12 rfl ?_
  refine xa_ialdN (pc := 13) row dX8_hearsTelling_13 xm_189 rfl rfl (by show _ < 1536; omega) (by decide) ?_
  refine xa_istore (pc := 14) dX8_hearsTelling_14 (by decide) ?_
  refine xa_iload (pc := 16) dX8_hearsTelling_16 rfl ?_
  refine xa_aload_n (pc := 18) dX8_hearsTelling_18 rfl ?_
  refine xa_getA (pc := 19) 8 2 133 lfX8_16 dX8_hearsTelling_19 xm_o rfl rfl rfl ?_
  refine xa_aload_n (pc := 22) dX8_hearsTelling_22 rfl ?_
  refine xa_getA (pc := 23) 8 15 146 lfX8_53 dX8_hearsTelling_23 xm_o rfl rfl rfl ?_
  refine xa_iload_n (pc := 26) dX8_hearsTelling_26 rfl ?_
  refine xa_ialdN (pc := 27) s dX8_hearsTelling_27 xm_146 rfl rfl (by show _ < 32; omega) (by decide) ?_
  refine xa_ialdN (pc := 28) (xc (S 146 s)) dX8_hearsTelling_28 xm_133 rfl (xa_in_eq (w5 s (by omega))) (by show _ < 12; omega) (by decide) ?_
  refine xa_aload_n (pc := 29) dX8_hearsTelling_29 rfl ?_
  refine xa_getA (pc := 30) 8 3 134 lfX8_19 dX8_hearsTelling_30 xm_o rfl rfl rfl ?_
  refine xa_aload_n (pc := 33) dX8_hearsTelling_33 rfl ?_
  refine xa_getA (pc := 34) 8 15 146 lfX8_53 dX8_hearsTelling_34 xm_o rfl rfl rfl ?_
  refine xa_iload_n (pc := 37) dX8_hearsTelling_37 rfl ?_
  refine xa_ialdN (pc := 38) s dX8_hearsTelling_38 xm_146 rfl rfl (by show _ < 32; omega) (by decide) ?_
  refine xa_ialdN (pc := 39) (xc (S 146 s)) dX8_hearsTelling_39 xm_134 rfl (xa_in_eq (w5 s (by omega))) (by show _ < 12; omega) (by decide) ?_
  refine xa_callS (pc := 40) lcX8_159 dX8_hearsTelling_40 (cm_in E _ _ _ _ _ _) rfl rfl (by decide) (Nat.le_of_ble_eq_true rfl) (by decide) ?_
  rintro _ _ _ ⟨rfl, rfl, rfl⟩
  refine xa_if_ne (pc := 43) 57 dX8_hearsTelling_43 (by decide) (fun h43 => ?_) (fun h43 => ?_)
  · have h43 := xa_b_n0.mp h43
    refine xa_iconst (pc := 57) (v := 0) dX8_hearsTelling_57 (by decide) ?_
    refine xa_istore (pc := 58) dX8_hearsTelling_58 (by decide) ?_
    rw [xm_ht, if_pos h43]
    exact xa_fgk (lm_ht60 E S hW hN hh hsn hrow _ _ t 0 (Nat.zero_le _) S rfl) (And.intro rfl (And.intro rfl (And.intro rfl (And.intro rfl (And.intro rfl (And.intro rfl (And.intro rfl (And.intro rfl trivial))))))))
  · have h43 := xa_b_0.mp h43
    refine xa_aload_n (pc := 46) dX8_hearsTelling_46 rfl ?_
    refine xa_dup (pc := 47) dX8_hearsTelling_47 rfl ?_
    refine xa_getI (pc := 48) 8 40 lfX8_311 dX8_hearsTelling_48 xm_o rfl rfl ?_
    refine xa_iconst (pc := 51) (v := 1) dX8_hearsTelling_51 (by decide) ?_
    refine xa_iadd (pc := 52) dX8_hearsTelling_52 ?_
    refine xa_putI (pc := 53) 8 40 lpX8_311 dX8_hearsTelling_53 xm_o rfl rfl rfl rfl ?_
    rw [xm_ht, h43]
    exact xa_vret dX8_hearsTelling_56 rfl ⟨rfl, rfl, rfl⟩
