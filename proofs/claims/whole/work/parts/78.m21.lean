theorem lp_z {α : Type} {f : Nat → α → α} {S : α} : S = xa_lp f 0 S := rfl
set_option maxHeartbeats 4000000 in
theorem lm_wa220 (E : xa_EV) (S : xa_AH) {nh ns : Nat} {h wr : Nat} (hh : h < 12) (hwl : wr < 24) (t : Int32) (hwr0 : S 130 47 = nI wr) (hI0 : xm_wi nh ns S) : ∀ x, x ≤ ns → ∀ T, T = xa_lp (xm_an1 h t) x S → xa_W E mX8_writesAll (xa_Z E mX8_writesAll xm_L (xa_pV (xm_wr (xa_lp (xm_an1 h t) ns S) wr h (S 131 h)) xm_R)) 0 0 220 [some (.ref 130), some (.int (nI h)), some (.int t), some (.int (nI x))] [] xm_L T xm_R := by
  refine xa_dn (fun x hxl ih => ?_)
  intro T eT
  have hI : xm_wi nh ns T := by rw [eT]; exact wi_an hI0
  have hwr : T 130 47 = nI wr := by rw [eT, lp_a (fun i U => an1_a (by decide))]; exact hwr0
  have hW := hI.1
  have hN := hI.2.1
  obtain ⟨w1, w2, w3, w4, w5⟩ := id hW
  refine xa_iload_n (pc := 220) dX8_writesAll_220 rfl ?_
  refine xa_aload_n (pc := 221) dX8_writesAll_221 rfl ?_
  refine xa_getI (pc := 222) 8 26 lfX8_170 dX8_writesAll_222 xm_o rfl rfl ?_
  refine xa_icmpN_ge (pc := 225) 265 x ns dX8_writesAll_225 (by decide) rfl w4 (by omega) (by omega) (fun h225 => ?_) (fun h225 => ?_)
  · have g225 : ¬ (x < ns) := by omega
    refine xa_aload_n (pc := 265) dX8_writesAll_265 rfl ?_
    refine xa_iload_n (pc := 266) dX8_writesAll_266 rfl ?_
    refine xa_aload_n (pc := 267) dX8_writesAll_267 rfl ?_
    refine xa_getA (pc := 268) 8 0 131 lfX8_9 dX8_writesAll_268 xm_o rfl rfl rfl ?_
    refine xa_iload_n (pc := 271) dX8_writesAll_271 rfl ?_
    refine xa_ialdN (pc := 272) h dX8_writesAll_272 xm_131 rfl rfl (by show _ < 12; omega) (by decide) ?_
    have ex9 : x = ns := by omega
    subst ex9
    rw [show T 131 h = S 131 h by rw [eT, lp_a (fun i U => an1_a (by decide))]]
    refine xa_callV (pc := 273) xm_o rfl rfl lcX8_253 dX8_writesAll_273 (cm_writes E _ (wr := wr) hwr hwl rfl hh _) rfl rfl (by decide) (Nat.le_of_ble_eq_true rfl) (by decide) ?_
    rintro _ _ _ ⟨rfl, rfl, rfl⟩
    exact xa_vret dX8_writesAll_276 rfl ⟨rfl, by rw [← eT], rfl⟩
  · refine xa_aload_n (pc := 228) dX8_writesAll_228 rfl ?_
    refine xa_getA (pc := 229) 8 32 163 lfX8_101 dX8_writesAll_229 xm_o rfl rfl rfl ?_
    refine xa_bipush (pc := 232) (v := 32) dX8_writesAll_232 (by decide) ?_
    refine xa_iload_n (pc := 234) dX8_writesAll_234 rfl ?_
    refine xa_imul (pc := 235) dX8_writesAll_235 ?_
    refine xa_iload_n (pc := 236) dX8_writesAll_236 rfl ?_
    refine xa_iadd (pc := 237) dX8_writesAll_237 ?_
    refine xa_ialdN (pc := 238) ((32 * h) + x) dX8_writesAll_238 xm_163 rfl (xa_pa (xa_pm rfl rfl) rfl) (by show _ < 384; omega) (by decide) ?_
    refine xa_iconst (pc := 239) (v := 0) dX8_writesAll_239 (by decide) ?_
    refine xa_iload_n (pc := 240) dX8_writesAll_240 rfl ?_
    refine xa_callS (pc := 241) lcX8_159 dX8_writesAll_241 (cm_in E _ _ _ _ _ _) rfl rfl (by decide) (Nat.le_of_ble_eq_true rfl) (by decide) ?_
    rintro _ _ _ ⟨rfl, rfl, rfl⟩
    refine xa_if_eq (pc := 244) 259 dX8_writesAll_244 (by decide) (fun h244 => ?_) (fun h244 => ?_)
    · have h244 := xa_b_0.mp h244
      refine xa_iinc (pc := 259) (v := nI (x + 1)) dX8_writesAll_259 rfl (by decide) (nI_1 _) ?_
      refine xa_goto (pc := 262) (tgt := 220) dX8_writesAll_262 (by decide) ?_
      exact xa_fgk (ih (by omega) _ (by rw [xa_lp, ← eT]; simp [xm_an1, h244] <;> rfl)) (And.intro rfl (And.intro rfl (And.intro rfl (And.intro rfl trivial))))
    · have h244 := xa_b_n0.mp h244
      refine xa_aload_n (pc := 247) dX8_writesAll_247 rfl ?_
      refine xa_getA (pc := 248) 8 32 163 lfX8_101 dX8_writesAll_248 xm_o rfl rfl rfl ?_
      refine xa_bipush (pc := 251) (v := 32) dX8_writesAll_251 (by decide) ?_
      refine xa_iload_n (pc := 253) dX8_writesAll_253 rfl ?_
      refine xa_imul (pc := 254) dX8_writesAll_254 ?_
      refine xa_iload_n (pc := 255) dX8_writesAll_255 rfl ?_
      refine xa_iadd (pc := 256) dX8_writesAll_256 ?_
      refine xa_iconst (pc := 257) (v := (-1)) dX8_writesAll_257 (by decide) ?_
      refine xa_iastN (pc := 258) ((32 * h) + x) dX8_writesAll_258 xm_163 rfl (xa_pa (xa_pm rfl rfl) rfl) (by show _ < 384; omega) (by decide) ?_
      refine xa_iinc (pc := 259) (v := nI (x + 1)) dX8_writesAll_259 rfl (by decide) (nI_1 _) ?_
      refine xa_goto (pc := 262) (tgt := 220) dX8_writesAll_262 (by decide) ?_
      exact xa_fgk (ih (by omega) _ (by rw [xa_lp, ← eT]; simp [xm_an1, h244] <;> rfl)) (And.intro rfl (And.intro rfl (And.intro rfl (And.intro rfl trivial))))
set_option maxHeartbeats 4000000 in
theorem lm_wa109 (E : xa_EV) (S : xa_AH) {nh ns : Nat} {h wr : Nat} (hh : h < 12) (hwl : wr < 24) (t : Int32) (hwr0 : S 130 47 = nI wr) (hI0 : xm_wi nh ns S) : ∀ x, x ≤ ns → ∀ T, T = xa_lp (xm_cl1 h wr) x S → xa_W E mX8_writesAll (xa_Z E mX8_writesAll xm_L (xa_pV (xm_wr (xa_lp (xm_an1 h t) ns (xm_te ns h wr t (xm_by ns h wr (xa_lp (xm_cl1 h wr) ns S)))) wr h (S 131 h)) xm_R)) 0 0 109 [some (.ref 130), some (.int (nI h)), some (.int t), some (.int (nI x))] [] xm_L T xm_R := by
  refine xa_dn (fun x hxl ih => ?_)
  intro T eT
  have hI : xm_wi nh ns T := by rw [eT]; exact wi_cl hI0
  have hwr : T 130 47 = nI wr := by rw [eT, lp_a (fun i U => cl1_a (by decide))]; exact hwr0
  have hW := hI.1
  have hN := hI.2.1
  obtain ⟨w1, w2, w3, w4, w5⟩ := id hW
  refine xa_iload_n (pc := 109) dX8_writesAll_109 rfl ?_
  refine xa_aload_n (pc := 110) dX8_writesAll_110 rfl ?_
  refine xa_getI (pc := 111) 8 26 lfX8_170 dX8_writesAll_111 xm_o rfl rfl ?_
  refine xa_icmpN_ge (pc := 114) 207 x ns dX8_writesAll_114 (by decide) rfl w4 (by omega) (by omega) (fun h114 => ?_) (fun h114 => ?_)
  · have g114 : ¬ (x < ns) := by omega
    refine xa_aload_n (pc := 207) dX8_writesAll_207 rfl ?_
    refine xa_iload_n (pc := 208) dX8_writesAll_208 rfl ?_
    refine xa_callV (pc := 209) xm_o rfl rfl lcX8_250 dX8_writesAll_209 (cm_byes E _ hW hN hwr hwl rfl hh) rfl rfl (by decide) (Nat.le_of_ble_eq_true rfl) (by decide) ?_
    rintro _ _ _ ⟨rfl, rfl, rfl⟩
    refine xa_aload_n (pc := 212) dX8_writesAll_212 rfl ?_
    refine xa_iload_n (pc := 213) dX8_writesAll_213 rfl ?_
    refine xa_iload_n (pc := 214) dX8_writesAll_214 rfl ?_
    refine xa_callV (pc := 215) xm_o rfl rfl lcX8_263 dX8_writesAll_215 (cm_tells E _ (wi_by hI).1 (wi_by hI).2.1 (by rw [byy_a (by decide) (by decide) (by decide)]; exact hwr) hwl rfl hh _) rfl rfl (by decide) (Nat.le_of_ble_eq_true rfl) (by decide) ?_
    rintro _ _ _ ⟨rfl, rfl, rfl⟩
    refine xa_iconst (pc := 218) (v := 0) dX8_writesAll_218 (by decide) ?_
    refine xa_istore_n (pc := 219) dX8_writesAll_219 (by decide) ?_
    have ex9 : x = ns := by omega
    subst ex9
    rw [← eT, show S 131 h = xm_te x h wr t (xm_by x h wr T) 131 h by rw [tey_a (by decide) (by decide), byy_a (by decide) (by decide) (by decide), eT, lp_a (fun i U => cl1_a (by decide))]]
    exact xa_fgk (lm_wa220 E _ hh hwl t (by rw [tey_a (by decide) (by decide), byy_a (by decide) (by decide) (by decide)]; exact hwr) (wi_te (wi_by hI)) 0 (Nat.zero_le _) _ rfl) (And.intro rfl (And.intro rfl (And.intro rfl (And.intro rfl trivial))))
  · refine xa_aload_n (pc := 117) dX8_writesAll_117 rfl ?_
    refine xa_getA (pc := 118) 8 15 146 lfX8_53 dX8_writesAll_118 xm_o rfl rfl rfl ?_
    refine xa_iload_n (pc := 121) dX8_writesAll_121 rfl ?_
    refine xa_ialdN (pc := 122) x dX8_writesAll_122 xm_146 rfl rfl (by show _ < 32; omega) (by decide) ?_
    refine xa_iload_n (pc := 123) dX8_writesAll_123 rfl ?_
    refine xa_icmp_ne (pc := 124) 201 dX8_writesAll_124 (by decide) (fun h124 => ?_) (fun h124 => ?_)
    · refine xa_iinc (pc := 201) (v := nI (x + 1)) dX8_writesAll_201 rfl (by decide) (nI_1 _) ?_
      refine xa_goto (pc := 204) (tgt := 109) dX8_writesAll_204 (by decide) ?_
      exact xa_fgk (ih (by omega) _ (by rw [xa_lp, ← eT]; simp [xm_cl1, h124] <;> rfl)) (And.intro rfl (And.intro rfl (And.intro rfl (And.intro rfl trivial))))
    · refine xa_aload_n (pc := 127) dX8_writesAll_127 rfl ?_
      refine xa_getA (pc := 128) 8 20 151 lfX8_68 dX8_writesAll_128 xm_o rfl rfl rfl ?_
      refine xa_iload_n (pc := 131) dX8_writesAll_131 rfl ?_
      refine xa_ialdN (pc := 132) x dX8_writesAll_132 xm_151 rfl rfl (by show _ < 32; omega) (by decide) ?_
      refine xa_iconst (pc := 133) (v := 1) dX8_writesAll_133 (by decide) ?_
      refine xa_icmp_ne (pc := 134) 201 dX8_writesAll_134 (by decide) (fun h134 => ?_) (fun h134 => ?_)
      · refine xa_iinc (pc := 201) (v := nI (x + 1)) dX8_writesAll_201 rfl (by decide) (nI_1 _) ?_
        refine xa_goto (pc := 204) (tgt := 109) dX8_writesAll_204 (by decide) ?_
        exact xa_fgk (ih (by omega) _ (by rw [xa_lp, ← eT]; simp [xm_cl1, h124, h134] <;> rfl)) (And.intro rfl (And.intro rfl (And.intro rfl (And.intro rfl trivial))))
      · refine xa_aload_n (pc := 137) dX8_writesAll_137 rfl ?_
        refine xa_getA (pc := 138) 8 21 152 lfX8_71 dX8_writesAll_138 xm_o rfl rfl rfl ?_
        refine xa_iload_n (pc := 141) dX8_writesAll_141 rfl ?_
        refine xa_ialdN (pc := 142) x dX8_writesAll_142 xm_152 rfl rfl (by show _ < 32; omega) (by decide) ?_
        refine xa_if_ne (pc := 143) 149 dX8_writesAll_143 (by decide) (fun h143 => ?_) (fun h143 => ?_)
        · refine xa_aload_n (pc := 149) dX8_writesAll_149 rfl ?_
          refine xa_getA (pc := 150) 8 21 152 lfX8_71 dX8_writesAll_150 xm_o rfl rfl rfl ?_
          refine xa_iload_n (pc := 153) dX8_writesAll_153 rfl ?_
          refine xa_dup2 (pc := 154) dX8_writesAll_154 rfl rfl ?_
          refine xa_ialdN (pc := 155) x dX8_writesAll_155 xm_152 rfl rfl (by show _ < 32; omega) (by decide) ?_
          refine xa_iconst (pc := 156) (v := 1) dX8_writesAll_156 (by decide) ?_
          refine xa_isub (pc := 157) dX8_writesAll_157 ?_
          refine xa_iastN (pc := 158) x dX8_writesAll_158 xm_152 rfl rfl (by show _ < 32; omega) (by decide) ?_
          refine xa_aload_n (pc := 159) dX8_writesAll_159 rfl ?_
          refine xa_getA (pc := 160) 8 52 183 lfX8_131 dX8_writesAll_160 xm_o rfl rfl rfl ?_
          refine xa_bipush (pc := 163) (v := 32) dX8_writesAll_163 (by decide) ?_
          refine xa_aload_n (pc := 165) dX8_writesAll_165 rfl ?_
          refine xa_getI (pc := 166) 8 47 lfX8_225 dX8_writesAll_166 xm_o rfl rfl ?_
          refine xa_imul (pc := 169) dX8_writesAll_169 ?_
          refine xa_iload_n (pc := 170) dX8_writesAll_170 rfl ?_
          refine xa_iadd (pc := 171) dX8_writesAll_171 ?_
          refine xa_aload_n (pc := 172) dX8_writesAll_172 rfl ?_
          refine xa_getA (pc := 173) 8 17 148 lfX8_59 dX8_writesAll_173 xm_o rfl rfl rfl ?_
          refine xa_iload_n (pc := 176) dX8_writesAll_176 rfl ?_
          refine xa_ialdN (pc := 177) x dX8_writesAll_177 xm_148 rfl rfl (by show _ < 32; omega) (by decide) ?_
          refine xa_iastN (pc := 178) ((32 * wr) + x) dX8_writesAll_178 xm_183 rfl (xa_pa (xa_pm rfl hwr) rfl) (by show _ < 1536; omega) (by decide) ?_
          refine xa_aload_n (pc := 179) dX8_writesAll_179 rfl ?_
          refine xa_getA (pc := 180) 8 53 184 lfX8_134 dX8_writesAll_180 xm_o rfl rfl rfl ?_
          refine xa_bipush (pc := 183) (v := 32) dX8_writesAll_183 (by decide) ?_
          refine xa_aload_n (pc := 185) dX8_writesAll_185 rfl ?_
          refine xa_getI (pc := 186) 8 47 lfX8_225 dX8_writesAll_186 xm_o rfl rfl ?_
          refine xa_imul (pc := 189) dX8_writesAll_189 ?_
          refine xa_iload_n (pc := 190) dX8_writesAll_190 rfl ?_
          refine xa_iadd (pc := 191) dX8_writesAll_191 ?_
          refine xa_iconst (pc := 192) (v := 1) dX8_writesAll_192 (by decide) ?_
          refine xa_aload_n (pc := 193) dX8_writesAll_193 rfl ?_
          refine xa_getA (pc := 194) 8 0 131 lfX8_9 dX8_writesAll_194 xm_o rfl rfl rfl ?_
          refine xa_iload_n (pc := 197) dX8_writesAll_197 rfl ?_
          refine xa_ialdN (pc := 198) h dX8_writesAll_198 xm_131 rfl rfl (by show _ < 12; omega) (by decide) ?_
          refine xa_ishl (pc := 199) dX8_writesAll_199 ?_
          refine xa_iastN (pc := 200) ((32 * wr) + x) dX8_writesAll_200 xm_184 rfl (xa_pa (xa_pm rfl hwr) rfl) (by show _ < 1536; omega) (by decide) ?_
          refine xa_iinc (pc := 201) (v := nI (x + 1)) dX8_writesAll_201 rfl (by decide) (nI_1 _) ?_
          refine xa_goto (pc := 204) (tgt := 109) dX8_writesAll_204 (by decide) ?_
          exact xa_fgk (ih (by omega) _ (by rw [xa_lp, ← eT]; simp [xm_cl1, h124, h134, h143] <;> rfl)) (And.intro rfl (And.intro rfl (And.intro rfl (And.intro rfl trivial))))
        · refine xa_goto (pc := 146) (tgt := 201) dX8_writesAll_146 (by decide) ?_
          refine xa_iinc (pc := 201) (v := nI (x + 1)) dX8_writesAll_201 rfl (by decide) (nI_1 _) ?_
          refine xa_goto (pc := 204) (tgt := 109) dX8_writesAll_204 (by decide) ?_
          exact xa_fgk (ih (by omega) _ (by rw [xa_lp, ← eT]; simp [xm_cl1, h124, h134, h143] <;> rfl)) (And.intro rfl (And.intro rfl (And.intro rfl (And.intro rfl trivial))))
set_option maxHeartbeats 4000000 in
theorem cm_writesAll (E : xa_EV) (S : xa_AH) {nh ns : Nat} {h wr : Nat} (hV : xm_wv nh ns (2 * h) S) (hwr : S 130 47 = nI wr) (hw2 : wr ≤ 2 * h) {xh : Int32} (eh : xh = nI h) (hh : h < 12) (t : Int32) : xa_Ct E mX8_writesAll [.ref 130, .int xh, .int t] xm_L S xm_R (xa_pV (xm_wall ns h t S) xm_R) := by
  subst eh
  have hI := hV.1
  have ec : xc (S 130 47) = wr := by rw [hwr]; exact xc_n (by omega)
  refine xa_Ct.of [some (.ref 130), some (.int (nI h)), some (.int t), none] rfl (Nat.le_of_ble_eq_true rfl) (by simp [Value.category]) rfl ?_
  refine xa_aload_n (pc := 0) dX8_writesAll_0 rfl ?_
  refine xa_aload_n (pc := 1) dX8_writesAll_1 rfl ?_
  refine xa_getI (pc := 2) 8 47 lfX8_225 dX8_writesAll_2 xm_o rfl rfl ?_
  refine xa_callV (pc := 5) xm_o rfl rfl lcX8_215 dX8_writesAll_5 (cm_clears E _ (r := wr) hwr (by omega)) rfl rfl (by decide) (Nat.le_of_ble_eq_true rfl) (by decide) ?_
  rintro _ _ _ ⟨rfl, rfl, rfl⟩
  have hwc : xm_clr wr S 130 47 = nI wr := by rw [clr_a (by decide)]; exact hwr
  refine xa_aload_n (pc := 8) dX8_writesAll_8 rfl ?_
  refine xa_getA (pc := 9) 8 6 137 lfX8_28 dX8_writesAll_9 xm_o rfl rfl rfl ?_
  refine xa_iload_n (pc := 12) dX8_writesAll_12 rfl ?_
  refine xa_zaldN (pc := 13) h dX8_writesAll_13 xm_137 rfl rfl (by show _ < 12; omega) (by decide) ?_
  rw [clr_a (a := 137) (by decide)]
  refine xa_if_eq (pc := 14) 41 dX8_writesAll_14 (by decide) (fun h14 => ?_) (fun h14 => ?_)
  · refine xa_aload_n (pc := 41) dX8_writesAll_41 rfl ?_
    refine xa_getA (pc := 42) 8 8 139 lfX8_35 dX8_writesAll_42 xm_o rfl rfl rfl ?_
    refine xa_iload_n (pc := 45) dX8_writesAll_45 rfl ?_
    refine xa_zaldN (pc := 46) h dX8_writesAll_46 xm_139 rfl rfl (by show _ < 12; omega) (by decide) ?_
    rw [clr_a (a := 139) (by decide)]
    refine xa_if_eq (pc := 47) 101 dX8_writesAll_47 (by decide) (fun h47 => ?_) (fun h47 => ?_)
    · refine xa_aload_n (pc := 101) dX8_writesAll_101 rfl ?_
      refine xa_iload_n (pc := 102) dX8_writesAll_102 rfl ?_
      refine xa_iload_n (pc := 103) dX8_writesAll_103 rfl ?_
      refine xa_callV (pc := 104) xm_o rfl rfl lcX8_260 dX8_writesAll_104 (cm_asks E _ (wi_clr hI).1 (wi_clr hI).2.1 hwc (by omega) rfl hh _) rfl rfl (by decide) (Nat.le_of_ble_eq_true rfl) (by decide) ?_
      rintro _ _ _ ⟨rfl, rfl, rfl⟩
      refine xa_iconst (pc := 107) (v := 0) dX8_writesAll_107 (by decide) ?_
      refine xa_istore_n (pc := 108) dX8_writesAll_108 (by decide) ?_
      rw [show xm_wall ns h t S = _ by unfold xm_wall; rw [if_neg (fun c => c h14), if_neg (fun c => c h47), ec]]
      rw [show S 131 h = xm_as ns h wr t (xm_clr wr S) 131 h by rw [asy_a (by decide), clr_a (by decide)]]
      exact xa_fgk (lm_wa109 E (xm_as ns h wr t (xm_clr wr S)) hh (by omega) t (by rw [asy_a (by decide)]; exact hwc) (wi_as (wi_clr hI)) 0 (Nat.zero_le _) (xm_as ns h wr t (xm_clr wr S)) lp_z) (And.intro rfl (And.intro rfl (And.intro rfl (And.intro rfl trivial))))
    · refine xa_aload_n (pc := 50) dX8_writesAll_50 rfl ?_
      refine xa_getA (pc := 51) 8 0 131 lfX8_9 dX8_writesAll_51 xm_o rfl rfl rfl ?_
      refine xa_iload_n (pc := 54) dX8_writesAll_54 rfl ?_
      refine xa_ialdN (pc := 55) h dX8_writesAll_55 xm_131 rfl rfl (by show _ < 12; omega) (by decide) ?_
      refine xa_aload_n (pc := 56) dX8_writesAll_56 rfl ?_
      refine xa_getA (pc := 57) 8 1 132 lfX8_13 dX8_writesAll_57 xm_o rfl rfl rfl ?_
      refine xa_iload_n (pc := 60) dX8_writesAll_60 rfl ?_
      refine xa_ialdN (pc := 61) h dX8_writesAll_61 xm_132 rfl rfl (by show _ < 12; omega) (by decide) ?_
      rw [clr_a (a := 131) (by decide), clr_a (a := 132) (by decide)]
      refine xa_icmp_ne (pc := 62) 66 dX8_writesAll_62 (by decide) (fun h62 => ?_) (fun h62 => ?_)
      · refine xa_aload_n (pc := 66) dX8_writesAll_66 rfl ?_
        refine xa_iload_n (pc := 67) dX8_writesAll_67 rfl ?_
        refine xa_iconst (pc := 68) (v := 0) dX8_writesAll_68 (by decide) ?_
        refine xa_aload_n (pc := 69) dX8_writesAll_69 rfl ?_
        refine xa_getA (pc := 70) 8 0 131 lfX8_9 dX8_writesAll_70 xm_o rfl rfl rfl ?_
        refine xa_iload_n (pc := 73) dX8_writesAll_73 rfl ?_
        refine xa_ialdN (pc := 74) h dX8_writesAll_74 xm_131 rfl rfl (by show _ < 12; omega) (by decide) ?_
        rw [clr_a (a := 131) (by decide)]
        refine xa_callV (pc := 75) xm_o rfl rfl lcX8_256 dX8_writesAll_75 (cm_takesUp E _ (wi_clr hI).2.2 hwc (by omega) rfl (sd := 0) rfl hh (by decide) _) rfl rfl (by decide) (Nat.le_of_ble_eq_true rfl) (by decide) ?_
        rintro _ _ _ ⟨rfl, rfl, rfl⟩
        have g2 := wv_tk (h := h) (sd := 0) (net := S 131 h) (n := 2 * h) (wv_of hV (wi_clr hI) (by rw [clr_a (by decide)]) (clr_a (by decide))) hwc (by omega) (by omega) hh
        have e32 : xm_tk h 0 wr (S 131 h) (xm_clr wr S) 132 = S 132 := by rw [tk_a (by decide) (by decide) (by decide) (by decide) (by decide), clr_a (by decide)]
        rw [show xm_wall ns h t S = xm_tk h 1 (xc (xm_tk h 0 wr (S 131 h) (xm_clr wr S) 130 47)) (S 132 h) (xm_clr (xc (xm_tk h 0 wr (S 131 h) (xm_clr wr S) 130 47)) (xm_tk h 0 wr (S 131 h) (xm_clr wr S))) by unfold xm_wall; rw [if_neg (fun c => c h14), if_pos h47, if_neg h62, ec]]
        rw [← e32]
        generalize xm_tk h 0 wr (S 131 h) (xm_clr wr S) = V at g2 e32 ⊢
        obtain ⟨k1, w2, f1, f2, f3⟩ := id g2
        rw [show xc (V 130 47) = w2 by rw [f1]; exact xc_n (by omega)]
        refine xa_aload_n (pc := 78) dX8_writesAll_78 rfl ?_
        refine xa_aload_n (pc := 79) dX8_writesAll_79 rfl ?_
        refine xa_getI (pc := 80) 8 47 lfX8_225 dX8_writesAll_80 xm_o rfl rfl ?_
        refine xa_callV (pc := 83) xm_o rfl rfl lcX8_215 dX8_writesAll_83 (cm_clears E _ (r := w2) f1 (by omega)) rfl rfl (by decide) (Nat.le_of_ble_eq_true rfl) (by decide) ?_
        rintro _ _ _ ⟨rfl, rfl, rfl⟩
        refine xa_aload_n (pc := 86) dX8_writesAll_86 rfl ?_
        refine xa_iload_n (pc := 87) dX8_writesAll_87 rfl ?_
        refine xa_iconst (pc := 88) (v := 1) dX8_writesAll_88 (by decide) ?_
        refine xa_aload_n (pc := 89) dX8_writesAll_89 rfl ?_
        refine xa_getA (pc := 90) 8 1 132 lfX8_13 dX8_writesAll_90 xm_o rfl rfl rfl ?_
        refine xa_iload_n (pc := 93) dX8_writesAll_93 rfl ?_
        refine xa_ialdN (pc := 94) h dX8_writesAll_94 xm_132 rfl rfl (by show _ < 12; omega) (by decide) ?_
        rw [clr_a (a := 132) (by decide)]
        refine xa_callV (pc := 95) xm_o rfl rfl lcX8_256 dX8_writesAll_95 (cm_takesUp E _ (wi_clr k1).2.2 (wr := w2) (by rw [clr_a (by decide)]; exact f1) (by omega) rfl (sd := 1) rfl hh (by decide) _) rfl rfl (by decide) (Nat.le_of_ble_eq_true rfl) (by decide) ?_
        rintro _ _ _ ⟨rfl, rfl, rfl⟩
        refine xa_goto (pc := 98) (tgt := 276) dX8_writesAll_98 (by decide) ?_
        exact xa_vret dX8_writesAll_276 rfl ⟨rfl, rfl, rfl⟩
      · rw [show xm_wall ns h t S = _ by unfold xm_wall; rw [if_neg (fun c => c h14), if_pos h47, if_pos h62, ec]]
        exact xa_vret dX8_writesAll_65 rfl ⟨rfl, rfl, rfl⟩
  · refine xa_aload_n (pc := 17) dX8_writesAll_17 rfl ?_
    refine xa_iload_n (pc := 18) dX8_writesAll_18 rfl ?_
    refine xa_callV (pc := 19) xm_o rfl rfl lcX8_250 dX8_writesAll_19 (cm_byes E _ (wi_clr hI).1 (wi_clr hI).2.1 hwc (by omega) rfl hh) rfl rfl (by decide) (Nat.le_of_ble_eq_true rfl) (by decide) ?_
    rintro _ _ _ ⟨rfl, rfl, rfl⟩
    refine xa_aload_n (pc := 22) dX8_writesAll_22 rfl ?_
    refine xa_iload_n (pc := 23) dX8_writesAll_23 rfl ?_
    refine xa_aload_n (pc := 24) dX8_writesAll_24 rfl ?_
    refine xa_getA (pc := 25) 8 0 131 lfX8_9 dX8_writesAll_25 xm_o rfl rfl rfl ?_
    refine xa_iload_n (pc := 28) dX8_writesAll_28 rfl ?_
    refine xa_ialdN (pc := 29) h dX8_writesAll_29 xm_131 rfl rfl (by show _ < 12; omega) (by decide) ?_
    rw [byy_a (a := 131) (by decide) (by decide) (by decide), clr_a (a := 131) (by decide)]
    refine xa_callV (pc := 30) xm_o rfl rfl lcX8_253 dX8_writesAll_30 (cm_writes E _ (wr := wr) (by rw [byy_a (by decide) (by decide) (by decide)]; exact hwc) (by omega) rfl hh _) rfl rfl (by decide) (Nat.le_of_ble_eq_true rfl) (by decide) ?_
    rintro _ _ _ ⟨rfl, rfl, rfl⟩
    refine xa_aload_n (pc := 33) dX8_writesAll_33 rfl ?_
    refine xa_iload_n (pc := 34) dX8_writesAll_34 rfl ?_
    refine xa_callV (pc := 35) xm_o rfl rfl lcX8_218 dX8_writesAll_35 (cm_isGone E _ rfl hh) rfl rfl (by decide) (Nat.le_of_ble_eq_true rfl) (by decide) ?_
    rintro _ _ _ ⟨rfl, rfl, rfl⟩
    refine xa_goto (pc := 38) (tgt := 276) dX8_writesAll_38 (by decide) ?_
    rw [show xm_wall ns h t S = _ by unfold xm_wall; rw [if_pos h14, ec]]
    exact xa_vret dX8_writesAll_276 rfl ⟨rfl, rfl, rfl⟩
