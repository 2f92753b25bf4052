set_option maxHeartbeats 4000000 in
theorem lm_ca193 (E : xa_EV) (S : xa_AH) {nh ns : Nat} (hW0 : xm_wf nh ns S) {h l to : Nat} (hh : h < 12) (hl : l < 24) (hto : to < 48) (sd net : Int32)  : ∀ x, x ≤ ns → ∀ T, T = xa_lp (xm_cy2 h l to net) x S → xa_W E mX8_carries (xa_Z E mX8_carries xm_L (xa_pV (xa_lp (xm_cy2 h l to net) ns S) xm_R)) 0 0 193 [some (.ref 130), some (.int (nI h)), some (.int (nI l)), some (.int sd), some (.int net), some (.int (nI to)), some (.int (nI x)), none, none] [] xm_L T xm_R := by
  refine xa_dn (fun x hxl ih => ?_)
  intro T eT
  have hW : xm_wf nh ns T := by rw [eT]; exact xa_lp_inv hW0 (fun i U _ hU => wf_cy2 hU)
  obtain ⟨w1, w2, w3, w4, w5⟩ := id hW
  refine xa_iload (pc := 193) dX8_carries_193 rfl ?_
  refine xa_aload_n (pc := 195) dX8_carries_195 rfl ?_
  refine xa_getI (pc := 196) 8 26 lfX8_170 dX8_carries_196 xm_o rfl rfl ?_
  refine xa_icmpN_ge (pc := 199) 520 x ns dX8_carries_199 (by decide) rfl w4 (by omega) (by omega) (fun h199 => ?_) (fun h199 => ?_)
  · have g199 : ¬ (x < ns) := by omega
    have ex9 : x = ns := by omega
    subst ex9
    exact xa_vret dX8_carries_520 rfl ⟨rfl, eT.symm, rfl⟩
  · refine xa_bipush (pc := 202) (v := 32) dX8_carries_202 (by decide) ?_
    refine xa_iload_n (pc := 204) dX8_carries_204 rfl ?_
    refine xa_imul (pc := 205) dX8_carries_205 ?_
    refine xa_iload (pc := 206) dX8_carries_206 rfl ?_
    refine xa_iadd (pc := 208) dX8_carries_208 ?_
    refine xa_istore (pc := 209) dX8_carries_209 (by decide) ?_
    refine xa_bipush (pc := 211) (v := 32) dX8_carries_211 (by decide) ?_
    refine xa_iload (pc := 213) dX8_carries_213 rfl ?_
    refine xa_imul (pc := 215) dX8_carries_215 ?_
    refine xa_iload (pc := 216) dX8_carries_216 rfl ?_
    refine xa_iadd (pc := 218) dX8_carries_218 ?_
    refine xa_istore (pc := 219) dX8_carries_219 (by decide) ?_
    refine xa_fgk (lm_cyC hW (s := x) hh hl hto (by omega) sd net ?_) (And.intro rfl (And.intro rfl (And.intro rfl (And.intro rfl (And.intro rfl (And.intro rfl (And.intro rfl (And.intro (congrArg (fun z => some (Value.int z)) (xa_pa (xa_pm rfl rfl) rfl)) (And.intro (congrArg (fun z => some (Value.int z)) (xa_pa (xa_pm rfl rfl) rfl)) trivial)))))))))
    refine lm_cyB (wf_cyC hW) (s := x) hh hl hto (by omega) sd net ?_
    refine lm_cyT (wf_cyB (wf_cyC hW)) (s := x) hh hl hto (by omega) sd net ?_
    refine xa_iinc (pc := 514) (v := nI (x + 1)) dX8_carries_514 rfl (by decide) (nI_1 _) ?_
    refine xa_goto (pc := 517) (tgt := 193) dX8_carries_517 (by decide) ?_
    exact xa_fgk (ih (by omega) _ (by rw [xa_lp, ← eT]; rfl)) (And.intro rfl (And.intro rfl (And.intro rfl (And.intro rfl (And.intro rfl (And.intro rfl (And.intro rfl trivial)))))))
set_option maxHeartbeats 4000000 in
theorem lm_ca56 (E : xa_EV) (S : xa_AH) {nh ns : Nat} (hW0 : xm_wf nh ns S) {h l to : Nat} (hh : h < 12) (hl : l < 24) (hto : to < 48) (sd net : Int32)  : ∀ x, x ≤ 16 → ∀ T, T = xa_lp (xm_cy1 h l to net) x S → xa_W E mX8_carries (xa_Z E mX8_carries xm_L (xa_pV (xm_cyL ns h l to net S) xm_R)) 0 0 56 [some (.ref 130), some (.int (nI h)), some (.int (nI l)), some (.int sd), some (.int net), some (.int (nI to)), some (.int (nI x)), none, none] [] xm_L T xm_R := by
  refine xa_dn (fun x hxl ih => ?_)
  intro T eT
  have hW : xm_wf nh ns T := by rw [eT]; exact xa_lp_inv hW0 (fun i U _ hU => wf_cy1 hU)
  obtain ⟨w1, w2, w3, w4, w5⟩ := id hW
  refine xa_iload (pc := 56) dX8_carries_56 rfl ?_
  refine xa_bipush (pc := 58) (v := 16) dX8_carries_58 (by decide) ?_
  refine xa_icmpN_ge (pc := 60) 190 x 16 dX8_carries_60 (by decide) rfl rfl (by omega) (by omega) (fun h60 => ?_) (fun h60 => ?_)
  · have g60 : ¬ (x < 16) := by omega
    refine xa_iconst (pc := 190) (v := 0) dX8_carries_190 (by decide) ?_
    refine xa_istore (pc := 191) dX8_carries_191 (by decide) ?_
    have ex9 : x = 16 := by omega
    subst ex9
    unfold xm_cyL
    rw [← eT]
    exact xa_fgk (lm_ca193 E T hW hh hl hto sd net 0 (Nat.zero_le _) _ rfl) (And.intro rfl (And.intro rfl (And.intro rfl (And.intro rfl (And.intro rfl (And.intro rfl (And.intro rfl trivial)))))))
  · refine xa_bipush (pc := 63) (v := 16) dX8_carries_63 (by decide) ?_
    refine xa_iload_n (pc := 65) dX8_carries_65 rfl ?_
    refine xa_imul (pc := 66) dX8_carries_66 ?_
    refine xa_iload (pc := 67) dX8_carries_67 rfl ?_
    refine xa_iadd (pc := 69) dX8_carries_69 ?_
    refine xa_istore (pc := 70) dX8_carries_70 (by decide) ?_
    refine xa_bipush (pc := 72) (v := 16) dX8_carries_72 (by decide) ?_
    refine xa_iload (pc := 74) dX8_carries_74 rfl ?_
    refine xa_imul (pc := 76) dX8_carries_76 ?_
    refine xa_iload (pc := 77) dX8_carries_77 rfl ?_
    refine xa_iadd (pc := 79) dX8_carries_79 ?_
    refine xa_istore (pc := 80) dX8_carries_80 (by decide) ?_
    refine xa_aload_n (pc := 82) dX8_carries_82 rfl ?_
    refine xa_getA (pc := 83) 8 48 179 lfX8_119 dX8_carries_83 xm_o rfl rfl rfl ?_
    refine xa_iload (pc := 86) dX8_carries_86 rfl ?_
    refine xa_zaldN (pc := 88) ((16 * l) + x) dX8_carries_88 xm_179 rfl (xa_pa (xa_pm rfl rfl) rfl) (by show _ < 768; omega) (by decide) ?_
    refine xa_if_eq (pc := 89) 184 dX8_carries_89 (by decide) (fun h89 => ?_) (fun h89 => ?_)
    · refine xa_iinc (pc := 184) (v := nI (x + 1)) dX8_carries_184 rfl (by decide) (nI_1 _) ?_
      refine xa_goto (pc := 187) (tgt := 56) dX8_carries_187 (by decide) ?_
      exact xa_fgk (ih (by omega) _ (by rw [xa_lp, ← eT, xm_cy1, if_pos (Or.inl h89)])) (And.intro rfl (And.intro rfl (And.intro rfl (And.intro rfl (And.intro rfl (And.intro rfl (And.intro rfl trivial)))))))
    · refine xa_aload_n (pc := 92) dX8_carries_92 rfl ?_
      refine xa_getA (pc := 93) 8 48 179 lfX8_119 dX8_carries_93 xm_o rfl rfl rfl ?_
      refine xa_iload (pc := 96) dX8_carries_96 rfl ?_
      refine xa_zaldN (pc := 98) ((16 * to) + x) dX8_carries_98 xm_179 rfl (xa_pa (xa_pm rfl rfl) rfl) (by show _ < 768; omega) (by decide) ?_
      refine xa_if_ne (pc := 99) 184 dX8_carries_99 (by decide) (fun h99 => ?_) (fun h99 => ?_)
      · refine xa_iinc (pc := 184) (v := nI (x + 1)) dX8_carries_184 rfl (by decide) (nI_1 _) ?_
        refine xa_goto (pc := 187) (tgt := 56) dX8_carries_187 (by decide) ?_
        exact xa_fgk (ih (by omega) _ (by rw [xa_lp, ← eT, xm_cy1, if_pos (Or.inr (Or.inl h99))])) (And.intro rfl (And.intro rfl (And.intro rfl (And.intro rfl (And.intro rfl (And.intro rfl (And.intro rfl trivial)))))))
      · refine xa_aload_n (pc := 102) dX8_carries_102 rfl ?_
        refine xa_iload_n (pc := 103) dX8_carries_103 rfl ?_
        refine xa_iload (pc := 104) dX8_carries_104 rfl ?_
        refine xa_aload_n (pc := 106) dX8_carries_106 rfl ?_
        refine xa_getA (pc := 107) 8 51 182 lfX8_128 dX8_carries_107 xm_o rfl rfl rfl ?_
        refine xa_iload (pc := 110) dX8_carries_110 rfl ?_
        refine xa_ialdN (pc := 112) ((16 * l) + x) dX8_carries_112 xm_182 rfl (xa_pa (xa_pm rfl rfl) rfl) (by show _ < 768; omega) (by decide) ?_
        refine xa_iload (pc := 113) dX8_carries_113 rfl ?_
        refine xa_callV (pc := 115) xm_o rfl rfl lcX8_283 dX8_carries_115 (cm_isCarried E _ (h := h) rfl (by omega) _ _ _) rfl rfl (by decide) (Nat.le_of_ble_eq_true rfl) (by decide) ?_
        rintro _ _ _ ⟨rfl, rfl, rfl⟩
        refine xa_if_ne (pc := 118) 124 dX8_carries_118 (by decide) (fun h118 => ?_) (fun h118 => ?_)
        · have h118 := xa_b_n0.mp h118
          refine xa_aload_n (pc := 124) dX8_carries_124 rfl ?_
          refine xa_getA (pc := 125) 8 48 179 lfX8_119 dX8_carries_125 xm_o rfl rfl rfl ?_
          refine xa_iload (pc := 128) dX8_carries_128 rfl ?_
          refine xa_iconst (pc := 130) (v := 1) dX8_carries_130 (by decide) ?_
          refine xa_zastN (pc := 131) ((16 * to) + x) dX8_carries_131 xm_179 rfl (xa_pa (xa_pm rfl rfl) rfl) (by show _ < 768; omega) (by decide) rfl ?_
          refine xa_aload_n (pc := 132) dX8_carries_132 rfl ?_
          refine xa_getA (pc := 133) 8 49 180 lfX8_122 dX8_carries_133 xm_o rfl rfl rfl ?_
          refine xa_iload (pc := 136) dX8_carries_136 rfl ?_
          refine xa_aload_n (pc := 138) dX8_carries_138 rfl ?_
          refine xa_getA (pc := 139) 8 49 180 lfX8_122 dX8_carries_139 xm_o rfl rfl rfl ?_
          refine xa_iload (pc := 142) dX8_carries_142 rfl ?_
          refine xa_ialdN (pc := 144) ((16 * l) + x) dX8_carries_144 xm_180 rfl (xa_pa (xa_pm rfl rfl) rfl) (by show _ < 768; omega) (by decide) ?_
          refine xa_iastN (pc := 145) ((16 * to) + x) dX8_carries_145 xm_180 rfl (xa_pa (xa_pm rfl rfl) rfl) (by show _ < 768; omega) (by decide) ?_
          refine xa_aload_n (pc := 146) dX8_carries_146 rfl ?_
          refine xa_getA (pc := 147) 8 50 181 lfX8_125 dX8_carries_147 xm_o rfl rfl rfl ?_
          refine xa_iload (pc := 150) dX8_carries_150 rfl ?_
          refine xa_aload_n (pc := 152) dX8_carries_152 rfl ?_
          refine xa_getA (pc := 153) 8 50 181 lfX8_125 dX8_carries_153 xm_o rfl rfl rfl ?_
          refine xa_iload (pc := 156) dX8_carries_156 rfl ?_
          refine xa_ialdN (pc := 158) ((16 * l) + x) dX8_carries_158 xm_181 rfl (xa_pa (xa_pm rfl rfl) rfl) (by show _ < 768; omega) (by decide) ?_
          refine xa_iastN (pc := 159) ((16 * to) + x) dX8_carries_159 xm_181 rfl (xa_pa (xa_pm rfl rfl) rfl) (by show _ < 768; omega) (by decide) ?_
          refine xa_aload_n (pc := 160) dX8_carries_160 rfl ?_
          refine xa_getA (pc := 161) 8 51 182 lfX8_128 dX8_carries_161 xm_o rfl rfl rfl ?_
          refine xa_iload (pc := 164) dX8_carries_164 rfl ?_
          refine xa_aload_n (pc := 166) dX8_carries_166 rfl ?_
          refine xa_getA (pc := 167) 8 51 182 lfX8_128 dX8_carries_167 xm_o rfl rfl rfl ?_
          refine xa_iload (pc := 170) dX8_carries_170 rfl ?_
          refine xa_ialdN (pc := 172) ((16 * l) + x) dX8_carries_172 xm_182 rfl (xa_pa (xa_pm rfl rfl) rfl) (by show _ < 768; omega) (by decide) ?_
          refine xa_iastN (pc := 173) ((16 * to) + x) dX8_carries_173 xm_182 rfl (xa_pa (xa_pm rfl rfl) rfl) (by show _ < 768; omega) (by decide) ?_
          refine xa_aload_n (pc := 174) dX8_carries_174 rfl ?_
          refine xa_dup (pc := 175) dX8_carries_175 rfl ?_
          refine xa_getI (pc := 176) 8 44 lfX8_286 dX8_carries_176 xm_o rfl rfl ?_
          refine xa_iconst (pc := 179) (v := 1) dX8_carries_179 (by decide) ?_
          refine xa_iadd (pc := 180) dX8_carries_180 ?_
          refine xa_putI (pc := 181) 8 44 lpX8_286 dX8_carries_181 xm_o rfl rfl rfl rfl ?_
          refine xa_iinc (pc := 184) (v := nI (x + 1)) dX8_carries_184 rfl (by decide) (nI_1 _) ?_
          refine xa_goto (pc := 187) (tgt := 56) dX8_carries_187 (by decide) ?_
          exact xa_fgk (ih (by omega) _ (by rw [xa_lp, ← eT, xm_cy1, if_neg (by simp [h89, h99, h118])] <;> rfl)) (And.intro rfl (And.intro rfl (And.intro rfl (And.intro rfl (And.intro rfl (And.intro rfl (And.intro rfl trivial)))))))
        · have h118 := xa_b_0.mp h118
          refine xa_goto (pc := 121) (tgt := 184) dX8_carries_121 (by decide) ?_
          refine xa_iinc (pc := 184) (v := nI (x + 1)) dX8_carries_184 rfl (by decide) (nI_1 _) ?_
          refine xa_goto (pc := 187) (tgt := 56) dX8_carries_187 (by decide) ?_
          exact xa_fgk (ih (by omega) _ (by rw [xa_lp, ← eT, xm_cy1, if_pos (Or.inr (Or.inr h118))])) (And.intro rfl (And.intro rfl (And.intro rfl (And.intro rfl (And.intro rfl (And.intro rfl (And.intro rfl trivial)))))))
set_option maxHeartbeats 4000000 in
theorem cm_carries (E : xa_EV) (S : xa_AH) {nh ns : Nat} (hW : xm_wf nh ns S) {h : Nat} {xh : Int32} (eh : xh = nI h) {l : Nat} {xl : Int32} (el : xl = nI l) (hh : h < 12) (hl : l < 24) : xa_Ct E mX8_carries [.ref 130, .int xh, .int xl] xm_L S xm_R (xa_pV (xm_cy ns h l S) xm_R) := by
  subst eh; subst el
  refine xa_Ct.of [some (.ref 130), some (.int (nI h)), some (.int (nI l)), none, none, none, none, none, none] rfl (Nat.le_of_ble_eq_true rfl) (by simp [Value.category]) rfl ?_
  obtain ⟨w1, w2, w3, w4, w5⟩ := id hW
  refine xa_aload_n (pc := 0) dX8_carries_0 rfl ?_
  refine xa_getA (pc := 1) 8 46 177 lfX8_116 dX8_carries_1 xm_o rfl rfl rfl ?_
  refine xa_iload_n (pc := 4) dX8_carries_4 rfl ?_
  refine xa_ialdN (pc := 5) l dX8_carries_5 xm_177 rfl rfl (by show _ < 24; omega) (by decide) ?_
  refine xa_aload_n (pc := 6) dX8_carries_6 rfl ?_
  refine xa_getA (pc := 7) 8 0 131 lfX8_9 dX8_carries_7 xm_o rfl rfl rfl ?_
  refine xa_iload_n (pc := 10) dX8_carries_10 rfl ?_
  refine xa_ialdN (pc := 11) h dX8_carries_11 xm_131 rfl rfl (by show _ < 12; omega) (by decide) ?_
  refine xa_icmp_ne (pc := 12) 19 dX8_carries_12 (by decide) (fun h12 => ?_) (fun h12 => ?_)
  · refine xa_iconst (pc := 19) (v := 0) dX8_carries_19 (by decide) ?_
    refine xa_istore_n (pc := 20) dX8_carries_20 (by decide) ?_
    refine xa_iload_n (pc := 21) dX8_carries_21 rfl ?_
    refine xa_iconst (pc := 22) (v := 1) dX8_carries_22 (by decide) ?_
    refine xa_icmp_ne (pc := 23) 35 dX8_carries_23 (by decide) (fun _ => ?_) (fun hc => absurd hc (by decide))
    refine xa_aload_n (pc := 35) dX8_carries_35 rfl ?_
    refine xa_getA (pc := 36) 8 0 131 lfX8_9 dX8_carries_36 xm_o rfl rfl rfl ?_
    refine xa_iload_n (pc := 39) dX8_carries_39 rfl ?_
    refine xa_ialdN (pc := 40) h dX8_carries_40 xm_131 rfl rfl (by show _ < 12; omega) (by decide) ?_
    refine xa_istore (pc := 41) dX8_carries_41 (by decide) ?_
    refine xa_bipush (pc := 43) (v := 24) dX8_carries_43 (by decide) ?_
    refine xa_iconst (pc := 45) (v := 2) dX8_carries_45 (by decide) ?_
    refine xa_iload_n (pc := 46) dX8_carries_46 rfl ?_
    refine xa_imul (pc := 47) dX8_carries_47 ?_
    refine xa_iadd (pc := 48) dX8_carries_48 ?_
    refine xa_iload_n (pc := 49) dX8_carries_49 rfl ?_
    refine xa_iadd (pc := 50) dX8_carries_50 ?_
    refine xa_istore (pc := 51) dX8_carries_51 (by decide) ?_
    refine xa_iconst (pc := 53) (v := 0) dX8_carries_53 (by decide) ?_
    refine xa_istore (pc := 54) dX8_carries_54 (by decide) ?_
    rw [show xm_cy ns h l S = _ from if_neg h12]
    exact xa_fgk (lm_ca56 E S hW (to := 24 + 2 * h) hh hl (by omega) _ _ 0 (Nat.zero_le _) _ rfl) (And.intro rfl (And.intro rfl (And.intro rfl (And.intro rfl (And.intro rfl (And.intro (congrArg (fun z => some (Value.int z)) (show _ = nI (24 + 2 * h + 0) from (xa_pa (xa_pa rfl (xa_pm rfl rfl)) rfl))) (And.intro rfl trivial)))))))
  · refine xa_iconst (pc := 15) (v := 1) dX8_carries_15 (by decide) ?_
    refine xa_goto (pc := 16) (tgt := 20) dX8_carries_16 (by decide) ?_
    refine xa_istore_n (pc := 20) dX8_carries_20 (by decide) ?_
    refine xa_iload_n (pc := 21) dX8_carries_21 rfl ?_
    refine xa_iconst (pc := 22) (v := 1) dX8_carries_22 (by decide) ?_
    refine xa_icmp_ne (pc := 23) 35 dX8_carries_23 (by decide) (fun hc => absurd rfl hc) (fun _ => ?_)
    refine xa_aload_n (pc := 26) dX8_carries_26 rfl ?_
    refine xa_getA (pc := 27) 8 1 132 lfX8_13 dX8_carries_27 xm_o rfl rfl rfl ?_
    refine xa_iload_n (pc := 30) dX8_carries_30 rfl ?_
    refine xa_ialdN (pc := 31) h dX8_carries_31 xm_132 rfl rfl (by show _ < 12; omega) (by decide) ?_
    refine xa_goto (pc := 32) (tgt := 41) dX8_carries_32 (by decide) ?_
    refine xa_istore (pc := 41) dX8_carries_41 (by decide) ?_
    refine xa_bipush (pc := 43) (v := 24) dX8_carries_43 (by decide) ?_
    refine xa_iconst (pc := 45) (v := 2) dX8_carries_45 (by decide) ?_
    refine xa_iload_n (pc := 46) dX8_carries_46 rfl ?_
    refine xa_imul (pc := 47) dX8_carries_47 ?_
    refine xa_iadd (pc := 48) dX8_carries_48 ?_
    refine xa_iload_n (pc := 49) dX8_carries_49 rfl ?_
    refine xa_iadd (pc := 50) dX8_carries_50 ?_
    refine xa_istore (pc := 51) dX8_carries_51 (by decide) ?_
    refine xa_iconst (pc := 53) (v := 0) dX8_carries_53 (by decide) ?_
    refine xa_istore (pc := 54) dX8_carries_54 (by decide) ?_
    rw [show xm_cy ns h l S = _ from if_pos h12]
    exact xa_fgk (lm_ca56 E S hW (to := 24 + 2 * h + 1) hh hl (by omega) _ _ 0 (Nat.zero_le _) _ rfl) (And.intro rfl (And.intro rfl (And.intro rfl (And.intro rfl (And.intro rfl (And.intro (congrArg (fun z => some (Value.int z)) (xa_pa (xa_pa rfl (xa_pm rfl rfl)) rfl)) (And.intro rfl trivial)))))))
theorem due_ge {S : xa_AH} {h s a : Nat} {t : Int32} (n : 165 ≤ a) : xm_due S h s t a = S a := due_a (by omega)
theorem hc1_ge {ns h s x a : Nat} {n t : Int32} {S : xa_AH} (ha : 164 ≤ a) : xm_hc1 ns h s n t x S a = S a := by
  unfold xm_hc1; split
  · rfl
  · split
    · exact due_a (by omega)
    · split
      · exact yld_a (by omega) (by omega) (by omega) (by omega)
      · rfl
theorem ha_ge {nh ns x l kd a : Nat} {d : Int32} {U : xa_AH} (ha : 165 ≤ a) : xm_ha nh ns x l kd d U a = U a := by
  have g1 : (if ¬ U 164 (16 * x + kd) = 0 ∧ U 165 (16 * x + kd) = U 180 (16 * l + kd) ∧ U 181 (16 * l + kd) &&& (xm_kn ns U x (nI kd) d ^^^ (-1)) = 0 then xa_up U 164 (16 * x + kd) 0 else U) a = U a := by
    split
    · exact up_o (by omega)
    · rfl
  unfold xm_ha xm_haD xm_haC
  generalize (if ¬ U 164 (16 * x + kd) = 0 ∧ U 165 (16 * x + kd) = U 180 (16 * l + kd) ∧ U 181 (16 * l + kd) &&& (xm_kn ns U x (nI kd) d ^^^ (-1)) = 0 then xa_up U 164 (16 * x + kd) 0 else U) = V at g1 ⊢
  rw [← g1]
  split
  · unfold xm_haB
    refine lp_a (fun i W => ?_) ns V
    unfold xm_ha1; split
    · rfl
    · split
      · split
        · exact due_a (by omega)
        · rfl
      · split
        · exact due_a (by omega)
        · rfl
  · rfl
theorem ht_ge {ns x s row a : Nat} {d : Int32} {U : xa_AH} (ha : 165 ≤ a) : xm_ht ns x s row d U a = U a := by
  unfold xm_ht; split
  · rw [← lp_a (f := xm_ht1 ns x s (U 187 row) d) (a := a) (fun i S => ht1_a (by omega)) ns U]
    generalize U 187 row = n0
    generalize U 189 row = d0
    generalize xa_lp (xm_ht1 ns x s n0 d) ns U = V
    unfold xm_htD
    have g2 : (if 2 * d0 < V 150 s then V else xa_up V 163 (32 * x + s) (-1)) a = V a := by
      split
      · rfl
      · exact up_o (by omega)
    generalize (if 2 * d0 < V 150 s then V else xa_up V 163 (32 * x + s) (-1)) = W at g2 ⊢
    rw [← g2]
    unfold xm_htC; split
    · rfl
    · unfold xm_htB; split
      · exact up_o (by omega)
      · unfold xm_htS
        rw [up_o (by omega), up_o (by omega), up_o (by omega), up_o (by omega), up_o (by omega)]
        refine lp_a (fun i Z => ?_) ns W
        unfold xm_ht3; split
        · rfl
        · exact up_o (by omega)
  · exact up_o (by omega)
theorem he1_ge {nh ns h l i a : Nat} {t : Int32} {S : xa_AH} (ha : 165 ≤ a) : xm_he1 nh ns h l t i S a = S a := by
  unfold xm_he1; split
  · rfl
  · exact ha_ge ha
theorem he2_ge {ns h l i a : Nat} {t : Int32} {S : xa_AH} (ha : 165 ≤ a) : xm_he2 ns h l t i S a = S a := by
  unfold xm_he2; split
  · rfl
  · exact lp_a (fun j W => hc1_ge (by omega)) _ _
theorem he3_ge {h l i a : Nat} {S : xa_AH} (ha : 165 ≤ a) : xm_he3 h l i S a = S a := by
  unfold xm_he3; split
  · rfl
  · exact up_o (by omega)
theorem he4_ge {ns h l i a : Nat} {t : Int32} {S : xa_AH} (ha : 165 ≤ a) : xm_he4 ns h l t i S a = S a := by
  unfold xm_he4; split
  · rfl
  · exact ht_ge ha
theorem hears_ge {nh ns h l a : Nat} {t : Int32} {S : xa_AH} (ha : 165 ≤ a) : xm_hears nh ns h l t S a = S a := by
  unfold xm_hears
  rw [lp_a (fun i V => he4_ge ha), lp_a (fun i V => he3_ge ha), lp_a (fun i V => he2_ge ha), lp_a (fun i V => he1_ge ha)]
theorem wf_hears {nh ns h l : Nat} {t : Int32} {S : xa_AH} (hW : xm_wf nh ns S) : xm_wf nh ns (xm_hears nh ns h l t S) := by
  unfold xm_hears
  exact xa_lp_inv (xa_lp_inv (xa_lp_inv (xa_lp_inv hW (fun i U _ hU => xm_wf_he1 hU)) (fun i U _ hU => xm_wf_he2 hU)) (fun i U _ hU => xm_wf_he3 hU)) (fun i U _ hU => xm_wf_he4 hU)
theorem nm_hears {nh ns h l : Nat} {t : Int32} {S : xa_AH} (hW : xm_nm nh S) : xm_nm nh (xm_hears nh ns h l t S) := by
  unfold xm_hears
  exact xa_lp_inv (xa_lp_inv (xa_lp_inv (xa_lp_inv hW (fun i U _ hU => xm_nm_he1 hU)) (fun i U _ hU => xm_nm_he2 hU)) (fun i U _ hU => xm_nm_he3 hU)) (fun i U _ hU => xm_nm_he4 hU)
theorem wf_cy {nh ns h l : Nat} {S : xa_AH} (hW : xm_wf nh ns S) : xm_wf nh ns (xm_cy ns h l S) := wf_of hW (cy_c (by decide)) (cy_c (by decide)) (cy_a (by decide) (by decide))
theorem nm_cy {nh ns h l : Nat} {S : xa_AH} (hW : xm_nm nh S) : xm_nm nh (xm_cy ns h l S) := nm_of hW (cy_a (by decide) (by decide)) (cy_a (by decide) (by decide))
def xm_ih1 (nh ns l w : Nat) (t : Int32) (h : Nat) (S : xa_AH) : xa_AH := if h = w ∨ ¬ S 136 h = 2 ∨ (¬ S 131 h = S 177 l ∧ ¬ S 132 h = S 177 l) ∨ S 131 h = S 132 h then S else if ¬ S 144 h ≤ 0 then xa_up S 144 h (S 144 h - 1) else if S 139 h = 0 then xm_hears nh ns h l t S else xm_cy ns h l S
def xm_ih (nh ns l : Nat) (t : Int32) (S : xa_AH) : xa_AH := if S 143 (xc (S 176 l)) ≤ 0 then xa_lp (xm_ih1 nh ns l (xc (S 176 l)) t) nh S else xa_up (xa_up S 143 (xc (S 176 l)) (S 143 (xc (S 176 l)) - 1)) 130 38 (S 130 38 + 1)
theorem wf_ih1 {nh ns l w h : Nat} {t : Int32} {S : xa_AH} (hW : xm_wf nh ns S) : xm_wf nh ns (xm_ih1 nh ns l w t h S) := by
  unfold xm_ih1; split
  · exact hW
  · split
    · exact xm_wf_up hW rfl
    · split
      · exact wf_hears hW
      · exact wf_cy hW
theorem nm_ih1 {nh ns l w h : Nat} {t : Int32} {S : xa_AH} (hW : xm_nm nh S) : xm_nm nh (xm_ih1 nh ns l w t h S) := by
  unfold xm_ih1; split
  · exact hW
  · split
    · exact xm_nm_up hW rfl
    · split
      · exact nm_hears hW
      · exact nm_cy hW
theorem ih1_17x {nh ns l w h a : Nat} {t : Int32} {S : xa_AH} (h1 : 165 ≤ a) (h2 : a < 179) : xm_ih1 nh ns l w t h S a = S a := by
  unfold xm_ih1; split
  · rfl
  · split
    · exact up_o (by omega)
    · split
      · exact hears_ge h1
      · exact cy_a (by omega) h2
theorem wf_ih {nh ns l : Nat} {t : Int32} {S : xa_AH} (hW : xm_wf nh ns S) : xm_wf nh ns (xm_ih nh ns l t S) := by
  unfold xm_ih; split
  · exact xa_lp_inv hW (fun i U _ hU => wf_ih1 hU)
  · exact xm_wf_up (xm_wf_up hW rfl) rfl
theorem nm_ih {nh ns l : Nat} {t : Int32} {S : xa_AH} (hW : xm_nm nh S) : xm_nm nh (xm_ih nh ns l t S) := by
  unfold xm_ih; split
  · exact xa_lp_inv hW (fun i U _ hU => nm_ih1 hU)
  · exact xm_nm_up (xm_nm_up hW rfl) rfl
theorem ih_17x {nh ns l a : Nat} {t : Int32} {S : xa_AH} (h1 : 165 ≤ a) (h2 : a < 179) : xm_ih nh ns l t S a = S a := by
  unfold xm_ih; split
  · exact lp_a (fun i U => ih1_17x h1 h2) _ _
  · rw [up_o (by omega), up_o (by omega)]
set_option maxHeartbeats 4000000 in
theorem lm_ih40 (E : xa_EV) (S : xa_AH) {nh ns : Nat} (hW0 : xm_wf nh ns S) (hN0 : xm_nm nh S) {l w : Nat} (hl : l < 24) (hw : w < 12) (t : Int32)  : ∀ x, x ≤ nh → ∀ T, T = xa_lp (xm_ih1 nh ns l w t) x S → xa_W E mX8_isHeard (xa_Z E mX8_isHeard xm_L (xa_pV (xa_lp (xm_ih1 nh ns l w t) nh S) xm_R)) 0 0 40 [some (.ref 130), some (.int (nI l)), some (.int t), some (.int (nI w)), some (.int (nI x))] [] xm_L T xm_R := by
  refine xa_dn (fun x hxl ih => ?_)
  intro T eT
  have hW : xm_wf nh ns T := by rw [eT]; exact xa_lp_inv hW0 (fun i U _ hU => wf_ih1 hU)
  obtain ⟨w1, w2, w3, w4, w5⟩ := id hW
  have hN : xm_nm nh T := by rw [eT]; exact xa_lp_inv hN0 (fun i U _ hU => nm_ih1 hU)
  refine xa_iload (pc := 40) dX8_isHeard_40 rfl ?_
  refine xa_aload_n (pc := 42) dX8_isHeard_42 rfl ?_
  refine xa_getI (pc := 43) 8 14 lfX8_155 dX8_isHeard_43 xm_o rfl rfl ?_
  refine xa_icmpN_ge (pc := 46) 176 x nh dX8_isHeard_46 (by decide) rfl w3 (by omega) (by omega) (fun h46 => ?_) (fun h46 => ?_)
  · have g46 : ¬ (x < nh) := by omega
    have ex9 : x = nh := by omega
    subst ex9
    exact xa_vret dX8_isHeard_176 rfl ⟨rfl, eT.symm, rfl⟩
  · refine xa_iload (pc := 49) dX8_isHeard_49 rfl ?_
    refine xa_iload_n (pc := 51) dX8_isHeard_51 rfl ?_
    refine xa_icmpN_eq (pc := 52) 170 x w dX8_isHeard_52 (by decide) rfl rfl (by omega) (by omega) (fun h52 => ?_) (fun h52 => ?_)
    · refine xa_iinc (pc := 170) (v := nI (x + 1)) dX8_isHeard_170 rfl (by decide) (nI_1 _) ?_
      refine xa_goto (pc := 173) (tgt := 40) dX8_isHeard_173 (by decide) ?_
      exact xa_fgk (ih (by omega) _ (by rw [xa_lp, ← eT, xm_ih1, if_pos (Or.inl h52)])) (And.intro rfl (And.intro rfl (And.intro rfl (And.intro rfl (And.intro rfl trivial)))))
    · refine xa_aload_n (pc := 55) dX8_isHeard_55 rfl ?_
      refine xa_getA (pc := 56) 8 5 136 lfX8_25 dX8_isHeard_56 xm_o rfl rfl rfl ?_
      refine xa_iload (pc := 59) dX8_isHeard_59 rfl ?_
      refine xa_ialdN (pc := 61) x dX8_isHeard_61 xm_136 rfl rfl (by show _ < 12; omega) (by decide) ?_
      refine xa_iconst (pc := 62) (v := 2) dX8_isHeard_62 (by decide) ?_
      refine xa_icmp_ne (pc := 63) 170 dX8_isHeard_63 (by decide) (fun h63 => ?_) (fun h63 => ?_)
      · refine xa_iinc (pc := 170) (v := nI (x + 1)) dX8_isHeard_170 rfl (by decide) (nI_1 _) ?_
        refine xa_goto (pc := 173) (tgt := 40) dX8_isHeard_173 (by decide) ?_
        exact xa_fgk (ih (by omega) _ (by rw [xa_lp, ← eT, xm_ih1, if_pos (Or.inr (Or.inl h63))])) (And.intro rfl (And.intro rfl (And.intro rfl (And.intro rfl (And.intro rfl trivial)))))
      · refine xa_aload_n (pc := 66) dX8_isHeard_66 rfl ?_
        refine xa_getA (pc := 67) 8 0 131 lfX8_9 dX8_isHeard_67 xm_o rfl rfl rfl ?_
        refine xa_iload (pc := 70) dX8_isHeard_70 rfl ?_
        refine xa_ialdN (pc := 72) x dX8_isHeard_72 xm_131 rfl rfl (by show _ < 12; omega) (by decide) ?_
        refine xa_aload_n (pc := 73) dX8_isHeard_73 rfl ?_
        refine xa_getA (pc := 74) 8 46 177 lfX8_116 dX8_isHeard_74 xm_o rfl rfl rfl ?_
        refine xa_iload_n (pc := 77) dX8_isHeard_77 rfl ?_
        refine xa_ialdN (pc := 78) l dX8_isHeard_78 xm_177 rfl rfl (by show _ < 24; omega) (by decide) ?_
        refine xa_icmp_eq (pc := 79) 98 dX8_isHeard_79 (by decide) (fun h79 => ?_) (fun h79 => ?_)
        · refine xa_aload_n (pc := 98) dX8_isHeard_98 rfl ?_
          refine xa_getA (pc := 99) 8 0 131 lfX8_9 dX8_isHeard_99 xm_o rfl rfl rfl ?_
          refine xa_iload (pc := 102) dX8_isHeard_102 rfl ?_
          refine xa_ialdN (pc := 104) x dX8_isHeard_104 xm_131 rfl rfl (by show _ < 12; omega) (by decide) ?_
          refine xa_aload_n (pc := 105) dX8_isHeard_105 rfl ?_
          refine xa_getA (pc := 106) 8 1 132 lfX8_13 dX8_isHeard_106 xm_o rfl rfl rfl ?_
          refine xa_iload (pc := 109) dX8_isHeard_109 rfl ?_
          refine xa_ialdN (pc := 111) x dX8_isHeard_111 xm_132 rfl rfl (by show _ < 12; omega) (by decide) ?_
          refine xa_icmp_ne (pc := 112) 118 dX8_isHeard_112 (by decide) (fun h112 => ?_) (fun h112 => ?_)
          · refine xa_aload_n (pc := 118) dX8_isHeard_118 rfl ?_
            refine xa_getA (pc := 119) 8 13 144 lfX8_50 dX8_isHeard_119 xm_o rfl rfl rfl ?_
            refine xa_iload (pc := 122) dX8_isHeard_122 rfl ?_
            refine xa_ialdN (pc := 124) x dX8_isHeard_124 xm_144 rfl rfl (by show _ < 12; omega) (by decide) ?_
            refine xa_if_le (pc := 125) 142 dX8_isHeard_125 (by decide) (fun h125 => ?_) (fun h125 => ?_)
            · refine xa_aload_n (pc := 142) dX8_isHeard_142 rfl ?_
              refine xa_getA (pc := 143) 8 8 139 lfX8_35 dX8_isHeard_143 xm_o rfl rfl rfl ?_
              refine xa_iload (pc := 146) dX8_isHeard_146 rfl ?_
              refine xa_zaldN (pc := 148) x dX8_isHeard_148 xm_139 rfl rfl (by show _ < 12; omega) (by decide) ?_
              refine xa_if_eq (pc := 149) 162 dX8_isHeard_149 (by decide) (fun h149 => ?_) (fun h149 => ?_)
              · refine xa_aload_n (pc := 162) dX8_isHeard_162 rfl ?_
                refine xa_iload (pc := 163) dX8_isHeard_163 rfl ?_
                refine xa_iload_n (pc := 165) dX8_isHeard_165 rfl ?_
                refine xa_iload_n (pc := 166) dX8_isHeard_166 rfl ?_
                refine xa_callV (pc := 167) xm_o rfl rfl lcX8_280 dX8_isHeard_167 (cm_hears E _ hW hN (h := x) rfl (l := l) rfl (by omega) (by omega) _) rfl rfl (by decide) (Nat.le_of_ble_eq_true rfl) (by decide) ?_
                rintro _ _ _ ⟨rfl, rfl, rfl⟩
                refine xa_iinc (pc := 170) (v := nI (x + 1)) dX8_isHeard_170 rfl (by decide) (nI_1 _) ?_
                refine xa_goto (pc := 173) (tgt := 40) dX8_isHeard_173 (by decide) ?_
                exact xa_fgk (ih (by omega) _ (by rw [xa_lp, ← eT, xm_ih1, if_neg (fun g => g.elim h52 (fun g => g.elim (fun g => g h63) (fun g => g.elim (fun g => g.1 h79) h112))), if_neg (fun g => g h125), if_pos h149])) (And.intro rfl (And.intro rfl (And.intro rfl (And.intro rfl (And.intro rfl trivial)))))
              · refine xa_aload_n (pc := 152) dX8_isHeard_152 rfl ?_
                refine xa_iload (pc := 153) dX8_isHeard_153 rfl ?_
                refine xa_iload_n (pc := 155) dX8_isHeard_155 rfl ?_
                refine xa_callV (pc := 156) xm_o rfl rfl lcX8_277 dX8_isHeard_156 (cm_carries E _ hW (h := x) rfl (l := l) rfl (by omega) (by omega)) rfl rfl (by decide) (Nat.le_of_ble_eq_true rfl) (by decide) ?_
                rintro _ _ _ ⟨rfl, rfl, rfl⟩
                refine xa_goto (pc := 159) (tgt := 170) dX8_isHeard_159 (by decide) ?_
                refine xa_iinc (pc := 170) (v := nI (x + 1)) dX8_isHeard_170 rfl (by decide) (nI_1 _) ?_
                refine xa_goto (pc := 173) (tgt := 40) dX8_isHeard_173 (by decide) ?_
                exact xa_fgk (ih (by omega) _ (by rw [xa_lp, ← eT, xm_ih1, if_neg (fun g => g.elim h52 (fun g => g.elim (fun g => g h63) (fun g => g.elim (fun g => g.1 h79) h112))), if_neg (fun g => g h125), if_neg h149])) (And.intro rfl (And.intro rfl (And.intro rfl (And.intro rfl (And.intro rfl trivial)))))
            · refine xa_aload_n (pc := 128) dX8_isHeard_128 rfl ?_
              refine xa_getA (pc := 129) 8 13 144 lfX8_50 dX8_isHeard_129 xm_o rfl rfl rfl ?_
              refine xa_iload (pc := 132) dX8_isHeard_132 rfl ?_
              refine xa_dup2 (pc := 134) dX8_isHeard_134 rfl rfl ?_
              refine xa_ialdN (pc := 135) x dX8_isHeard_135 xm_144 rfl rfl (by show _ < 12; omega) (by decide) ?_
              refine xa_iconst (pc := 136) (v := 1) dX8_isHeard_136 (by decide) ?_
              refine xa_isub (pc := 137) dX8_isHeard_137 ?_
              refine xa_iastN (pc := 138) x dX8_isHeard_138 xm_144 rfl rfl (by show _ < 12; omega) (by decide) ?_
              refine xa_goto (pc := 139) (tgt := 170) dX8_isHeard_139 (by decide) ?_
              refine xa_iinc (pc := 170) (v := nI (x + 1)) dX8_isHeard_170 rfl (by decide) (nI_1 _) ?_
              refine xa_goto (pc := 173) (tgt := 40) dX8_isHeard_173 (by decide) ?_
              exact xa_fgk (ih (by omega) _ (by rw [xa_lp, ← eT, xm_ih1, if_neg (fun g => g.elim h52 (fun g => g.elim (fun g => g h63) (fun g => g.elim (fun g => g.1 h79) h112))), if_pos h125])) (And.intro rfl (And.intro rfl (And.intro rfl (And.intro rfl (And.intro rfl trivial)))))
          · refine xa_goto (pc := 115) (tgt := 170) dX8_isHeard_115 (by decide) ?_
            refine xa_iinc (pc := 170) (v := nI (x + 1)) dX8_isHeard_170 rfl (by decide) (nI_1 _) ?_
            refine xa_goto (pc := 173) (tgt := 40) dX8_isHeard_173 (by decide) ?_
            exact xa_fgk (ih (by omega) _ (by rw [xa_lp, ← eT, xm_ih1, if_pos (Or.inr (Or.inr (Or.inr h112)))])) (And.intro rfl (And.intro rfl (And.intro rfl (And.intro rfl (And.intro rfl trivial)))))
        · refine xa_aload_n (pc := 82) dX8_isHeard_82 rfl ?_
          refine xa_getA (pc := 83) 8 1 132 lfX8_13 dX8_isHeard_83 xm_o rfl rfl rfl ?_
          refine xa_iload (pc := 86) dX8_isHeard_86 rfl ?_
          refine xa_ialdN (pc := 88) x dX8_isHeard_88 xm_132 rfl rfl (by show _ < 12; omega) (by decide) ?_
          refine xa_aload_n (pc := 89) dX8_isHeard_89 rfl ?_
          refine xa_getA (pc := 90) 8 46 177 lfX8_116 dX8_isHeard_90 xm_o rfl rfl rfl ?_
          refine xa_iload_n (pc := 93) dX8_isHeard_93 rfl ?_
          refine xa_ialdN (pc := 94) l dX8_isHeard_94 xm_177 rfl rfl (by show _ < 24; omega) (by decide) ?_
          refine xa_icmp_ne (pc := 95) 170 dX8_isHeard_95 (by decide) (fun h95 => ?_) (fun h95 => ?_)
          · refine xa_iinc (pc := 170) (v := nI (x + 1)) dX8_isHeard_170 rfl (by decide) (nI_1 _) ?_
            refine xa_goto (pc := 173) (tgt := 40) dX8_isHeard_173 (by decide) ?_
            exact xa_fgk (ih (by omega) _ (by rw [xa_lp, ← eT, xm_ih1, if_pos (Or.inr (Or.inr (Or.inl ⟨h79, h95⟩)))])) (And.intro rfl (And.intro rfl (And.intro rfl (And.intro rfl (And.intro rfl trivial)))))
          · refine xa_aload_n (pc := 98) dX8_isHeard_98 rfl ?_
            refine xa_getA (pc := 99) 8 0 131 lfX8_9 dX8_isHeard_99 xm_o rfl rfl rfl ?_
            refine xa_iload (pc := 102) dX8_isHeard_102 rfl ?_
            refine xa_ialdN (pc := 104) x dX8_isHeard_104 xm_131 rfl rfl (by show _ < 12; omega) (by decide) ?_
            refine xa_aload_n (pc := 105) dX8_isHeard_105 rfl ?_
            refine xa_getA (pc := 106) 8 1 132 lfX8_13 dX8_isHeard_106 xm_o rfl rfl rfl ?_
            refine xa_iload (pc := 109) dX8_isHeard_109 rfl ?_
            refine xa_ialdN (pc := 111) x dX8_isHeard_111 xm_132 rfl rfl (by show _ < 12; omega) (by decide) ?_
            refine xa_icmp_ne (pc := 112) 118 dX8_isHeard_112 (by decide) (fun h112 => ?_) (fun h112 => ?_)
            · refine xa_aload_n (pc := 118) dX8_isHeard_118 rfl ?_
              refine xa_getA (pc := 119) 8 13 144 lfX8_50 dX8_isHeard_119 xm_o rfl rfl rfl ?_
              refine xa_iload (pc := 122) dX8_isHeard_122 rfl ?_
              refine xa_ialdN (pc := 124) x dX8_isHeard_124 xm_144 rfl rfl (by show _ < 12; omega) (by decide) ?_
              refine xa_if_le (pc := 125) 142 dX8_isHeard_125 (by decide) (fun h125 => ?_) (fun h125 => ?_)
              · refine xa_aload_n (pc := 142) dX8_isHeard_142 rfl ?_
                refine xa_getA (pc := 143) 8 8 139 lfX8_35 dX8_isHeard_143 xm_o rfl rfl rfl ?_
                refine xa_iload (pc := 146) dX8_isHeard_146 rfl ?_
                refine xa_zaldN (pc := 148) x dX8_isHeard_148 xm_139 rfl rfl (by show _ < 12; omega) (by decide) ?_
                refine xa_if_eq (pc := 149) 162 dX8_isHeard_149 (by decide) (fun h149 => ?_) (fun h149 => ?_)
                · refine xa_aload_n (pc := 162) dX8_isHeard_162 rfl ?_
                  refine xa_iload (pc := 163) dX8_isHeard_163 rfl ?_
                  refine xa_iload_n (pc := 165) dX8_isHeard_165 rfl ?_
                  refine xa_iload_n (pc := 166) dX8_isHeard_166 rfl ?_
                  refine xa_callV (pc := 167) xm_o rfl rfl lcX8_280 dX8_isHeard_167 (cm_hears E _ hW hN (h := x) rfl (l := l) rfl (by omega) (by omega) _) rfl rfl (by decide) (Nat.le_of_ble_eq_true rfl) (by decide) ?_
                  rintro _ _ _ ⟨rfl, rfl, rfl⟩
                  refine xa_iinc (pc := 170) (v := nI (x + 1)) dX8_isHeard_170 rfl (by decide) (nI_1 _) ?_
                  refine xa_goto (pc := 173) (tgt := 40) dX8_isHeard_173 (by decide) ?_
                  exact xa_fgk (ih (by omega) _ (by rw [xa_lp, ← eT, xm_ih1, if_neg (fun g => g.elim h52 (fun g => g.elim (fun g => g h63) (fun g => g.elim (fun g => g.2 h95) h112))), if_neg (fun g => g h125), if_pos h149])) (And.intro rfl (And.intro rfl (And.intro rfl (And.intro rfl (And.intro rfl trivial)))))
                · refine xa_aload_n (pc := 152) dX8_isHeard_152 rfl ?_
                  refine xa_iload (pc := 153) dX8_isHeard_153 rfl ?_
                  refine xa_iload_n (pc := 155) dX8_isHeard_155 rfl ?_
                  refine xa_callV (pc := 156) xm_o rfl rfl lcX8_277 dX8_isHeard_156 (cm_carries E _ hW (h := x) rfl (l := l) rfl (by omega) (by omega)) rfl rfl (by decide) (Nat.le_of_ble_eq_true rfl) (by decide) ?_
                  rintro _ _ _ ⟨rfl, rfl, rfl⟩
                  refine xa_goto (pc := 159) (tgt := 170) dX8_isHeard_159 (by decide) ?_
                  refine xa_iinc (pc := 170) (v := nI (x + 1)) dX8_isHeard_170 rfl (by decide) (nI_1 _) ?_
                  refine xa_goto (pc := 173) (tgt := 40) dX8_isHeard_173 (by decide) ?_
                  exact xa_fgk (ih (by omega) _ (by rw [xa_lp, ← eT, xm_ih1, if_neg (fun g => g.elim h52 (fun g => g.elim (fun g => g h63) (fun g => g.elim (fun g => g.2 h95) h112))), if_neg (fun g => g h125), if_neg h149])) (And.intro rfl (And.intro rfl (And.intro rfl (And.intro rfl (And.intro rfl trivial)))))
              · refine xa_aload_n (pc := 128) dX8_isHeard_128 rfl ?_
                refine xa_getA (pc := 129) 8 13 144 lfX8_50 dX8_isHeard_129 xm_o rfl rfl rfl ?_
                refine xa_iload (pc := 132) dX8_isHeard_132 rfl ?_
                refine xa_dup2 (pc := 134) dX8_isHeard_134 rfl rfl ?_
                refine xa_ialdN (pc := 135) x dX8_isHeard_135 xm_144 rfl rfl (by show _ < 12; omega) (by decide) ?_
                refine xa_iconst (pc := 136) (v := 1) dX8_isHeard_136 (by decide) ?_
                refine xa_isub (pc := 137) dX8_isHeard_137 ?_
                refine xa_iastN (pc := 138) x dX8_isHeard_138 xm_144 rfl rfl (by show _ < 12; omega) (by decide) ?_
                refine xa_goto (pc := 139) (tgt := 170) dX8_isHeard_139 (by decide) ?_
                refine xa_iinc (pc := 170) (v := nI (x + 1)) dX8_isHeard_170 rfl (by decide) (nI_1 _) ?_
                refine xa_goto (pc := 173) (tgt := 40) dX8_isHeard_173 (by decide) ?_
                exact xa_fgk (ih (by omega) _ (by rw [xa_lp, ← eT, xm_ih1, if_neg (fun g => g.elim h52 (fun g => g.elim (fun g => g h63) (fun g => g.elim (fun g => g.2 h95) h112))), if_pos h125])) (And.intro rfl (And.intro rfl (And.intro rfl (And.intro rfl (And.intro rfl trivial)))))
            · refine xa_goto (pc := 115) (tgt := 170) dX8_isHeard_115 (by decide) ?_
              refine xa_iinc (pc := 170) (v := nI (x + 1)) dX8_isHeard_170 rfl (by decide) (nI_1 _) ?_
              refine xa_goto (pc := 173) (tgt := 40) dX8_isHeard_173 (by decide) ?_
              exact xa_fgk (ih (by omega) _ (by rw [xa_lp, ← eT, xm_ih1, if_pos (Or.inr (Or.inr (Or.inr h112)))])) (And.intro rfl (And.intro rfl (And.intro rfl (And.intro rfl (And.intro rfl trivial)))))
set_option maxHeartbeats 4000000 in
theorem cm_isHeard (E : xa_EV) (S : xa_AH) {nh ns : Nat} (hW : xm_wf nh ns S) (hN : xm_nm nh S) {l : Nat} {xl : Int32} (el : xl = nI l) {w : Nat} (hl : l < 24) (hw : w < 12) (hw0 : S 176 l = nI w) (t : Int32) : xa_Ct E mX8_isHeard [.ref 130, .int xl, .int t] xm_L S xm_R (xa_pV (xm_ih nh ns l t S) xm_R) := by
  subst el
  refine xa_Ct.of [some (.ref 130), some (.int (nI l)), some (.int t), none, none] rfl (Nat.le_of_ble_eq_true rfl) (by simp [Value.category]) rfl ?_
  obtain ⟨w1, w2, w3, w4, w5⟩ := id hW
  refine xa_aload_n (pc := 0) dX8_isHeard_0 rfl ?_
  refine xa_getA (pc := 1) 8 45 176 lfX8_113 dX8_isHeard_1 xm_o rfl rfl rfl ?_
  refine xa_iload_n (pc := 4) dX8_isHeard_4 rfl ?_
  refine xa_ialdN (pc := 5) l dX8_isHeard_5 xm_176 rfl rfl (by show _ < 24; omega) (by decide) ?_
  refine xa_istore_n (pc := 6) dX8_isHeard_6 (by decide) ?_
  refine xa_aload_n (pc := 7) dX8_isHeard_7 rfl ?_
  refine xa_getA (pc := 8) 8 12 143 lfX8_47 dX8_isHeard_8 xm_o rfl rfl rfl ?_
  refine xa_iload_n (pc := 11) dX8_isHeard_11 rfl ?_
  refine xa_ialdN (pc := 12) w dX8_isHeard_12 xm_143 rfl hw0 (by show _ < 12; omega) (by decide) ?_
  refine xa_if_le (pc := 13) 37 dX8_isHeard_13 (by decide) (fun h13 => ?_) (fun h13 => ?_)
  · refine xa_iconst (pc := 37) (v := 0) dX8_isHeard_37 (by decide) ?_
    refine xa_istore (pc := 38) dX8_isHeard_38 (by decide) ?_
    rw [show xm_ih nh ns l t S = _ from if_pos (by rw [hw0, xc_n (by omega)]; exact h13)]
    rw [hw0, xc_n (by omega)]
    exact xa_fgk (lm_ih40 E S hW hN hl hw t 0 (Nat.zero_le _) _ rfl) (And.intro rfl (And.intro rfl (And.intro rfl (And.intro rfl (And.intro rfl trivial)))))
  · refine xa_aload_n (pc := 16) dX8_isHeard_16 rfl ?_
    refine xa_getA (pc := 17) 8 12 143 lfX8_47 dX8_isHeard_17 xm_o rfl rfl rfl ?_
    refine xa_iload_n (pc := 20) dX8_isHeard_20 rfl ?_
    refine xa_dup2 (pc := 21) dX8_isHeard_21 rfl rfl ?_
    refine xa_ialdN (pc := 22) w dX8_isHeard_22 xm_143 rfl hw0 (by show _ < 12; omega) (by decide) ?_
    refine xa_iconst (pc := 23) (v := 1) dX8_isHeard_23 (by decide) ?_
    refine xa_isub (pc := 24) dX8_isHeard_24 ?_
    refine xa_iastN (pc := 25) w dX8_isHeard_25 xm_143 rfl hw0 (by show _ < 12; omega) (by decide) ?_
    refine xa_aload_n (pc := 26) dX8_isHeard_26 rfl ?_
    refine xa_dup (pc := 27) dX8_isHeard_27 rfl ?_
    refine xa_getI (pc := 28) 8 38 lfX8_274 dX8_isHeard_28 xm_o rfl rfl ?_
    refine xa_iconst (pc := 31) (v := 1) dX8_isHeard_31 (by decide) ?_
    refine xa_iadd (pc := 32) dX8_isHeard_32 ?_
    refine xa_putI (pc := 33) 8 38 lpX8_274 dX8_isHeard_33 xm_o rfl rfl rfl rfl ?_
    rw [show xm_ih nh ns l t S = _ from if_neg (by rw [hw0, xc_n (by omega)]; exact h13)]
    rw [hw0, xc_n (by omega)]
    exact xa_vret dX8_isHeard_36 rfl ⟨rfl, rfl, rfl⟩
