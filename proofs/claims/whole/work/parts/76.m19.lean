/-- the booleans of the rows are booleans -/
def xm_fb (S : xa_AH) : Prop := ∀ j, (S 179 j = 0 ∨ S 179 j = 1) ∧ (S 185 j = 0 ∨ S 185 j = 1)
theorem fb_of {S S2 : xa_AH} (h : xm_fb S) (h1 : S2 179 = S 179) (h2 : S2 185 = S 185) : xm_fb S2 := fun j => by rw [h1, h2]; exact h j
theorem fb_up {S : xa_AH} {a k : Nat} {v : Int32} (h : xm_fb S) (hv : (a ≠ 179 ∧ a ≠ 185) ∨ v = 0 ∨ v = 1) : xm_fb (xa_up S a k v) := fun j => by
  have q := h j
  unfold xa_up
  constructor
  · split
    · rcases hv with e | e
      · omega
      · exact e
    · exact q.1
  · split
    · rcases hv with e | e
      · omega
      · exact e
    · exact q.2
theorem fb_nar {v : Int32} (h : v = 0 ∨ v = 1) : vp_nar .boolean v = v := by
  rcases h with e | e <;> (rw [e]; rfl)
/-- what the reference needs while it writes and hears -/
def xm_wi (nh ns : Nat) (S : xa_AH) : Prop := xm_wf nh ns S ∧ xm_nm nh S ∧ xm_fb S
theorem wi_up {nh ns : Nat} {S : xa_AH} {a k : Nat} {v : Int32} (h : xm_wi nh ns S) (ho : xm_ok a k = true) (hn : (!(a == 133) && !(a == 134)) = true) (hv : (a ≠ 179 ∧ a ≠ 185) ∨ v = 0 ∨ v = 1) : xm_wi nh ns (xa_up S a k v) := ⟨xm_wf_up h.1 ho, xm_nm_up h.2.1 hn, fb_up h.2.2 hv⟩
theorem wi_of {nh ns : Nat} {S S2 : xa_AH} (h : xm_wi nh ns S) (h1 : S2 130 14 = S 130 14) (h2 : S2 130 26 = S 130 26) (h3 : S2 146 = S 146) (h4 : S2 133 = S 133) (h5 : S2 134 = S 134) (h6 : xm_fb S2) : xm_wi nh ns S2 := ⟨wf_of h.1 h1 h2 h3, nm_of h.2.1 h4 h5, h6⟩
theorem fb_clr {S : xa_AH} {r : Nat} (h : xm_fb S) : xm_fb (xm_clr r S) := fun j => by
  have q := h j
  rw [clr_e, clr_e]
  constructor
  · split
    · exact Or.inl rfl
    · exact q.1
  · split
    · exact Or.inl rfl
    · exact q.2
theorem wi_clr {nh ns r : Nat} {S : xa_AH} (h : xm_wi nh ns S) : xm_wi nh ns (xm_clr r S) := wi_of h (by rw [clr_a (by decide)]) (by rw [clr_a (by decide)]) (clr_a (by decide)) (clr_a (by decide)) (clr_a (by decide)) (fb_clr h.2.2)
theorem fb_tk1 {wr fr k : Nat} {b : Int32} {S : xa_AH} (h : xm_fb S) : xm_fb (xm_tk1 wr fr b k S) := by
  unfold xm_tk1
  exact fb_up (fb_up (fb_up (fb_up h (Or.inr (h _).1)) (Or.inl (by decide))) (Or.inl (by decide))) (Or.inl (by decide))
theorem fb_tk2 {wr fr k : Nat} {b : Int32} {S : xa_AH} (h : xm_fb S) : xm_fb (xm_tk2 wr fr b k S) := by
  unfold xm_tk2
  exact fb_up (fb_up (fb_up (fb_up (fb_up (fb_up (fb_up (fb_up h (Or.inl (by decide))) (Or.inl (by decide))) (Or.inr (h _).2)) (Or.inl (by decide))) (Or.inl (by decide))) (Or.inl (by decide))) (Or.inl (by decide))) (Or.inl (by decide))
theorem tk1_a {wr fr k a : Nat} {b : Int32} {S : xa_AH} (ha : a < 179) : xm_tk1 wr fr b k S a = S a := by
  unfold xm_tk1; rw [up_o (by omega), up_o (by omega), up_o (by omega), up_o (by omega)]
theorem tk2_a {wr fr k a : Nat} {b : Int32} {S : xa_AH} (ha : a < 179) : xm_tk2 wr fr b k S a = S a := by
  unfold xm_tk2; rw [up_o (by omega), up_o (by omega), up_o (by omega), up_o (by omega), up_o (by omega), up_o (by omega), up_o (by omega), up_o (by omega)]
set_option maxHeartbeats 4000000 in
theorem lm_tk111 (E : xa_EV) (S : xa_AH) {h fr wr : Nat} (hh : h < 12) (hfr : fr < 48) (hwl : wr < 24) (sd net : Int32) (hwr0 : S 130 47 = nI wr) (hF0 : xm_fb S) : ∀ x, x ≤ 32 → ∀ T, T = xa_lp (xm_tk2 wr fr (1 <<< (net &&& 31))) x S → xa_W E mX8_takesUp (xa_Z E mX8_takesUp xm_L (xa_pV (xm_wr (xm_clr fr (xa_lp (xm_tk2 wr fr (1 <<< (net &&& 31))) 32 S)) wr h net) xm_R)) 0 0 111 [some (.ref 130), some (.int (nI h)), some (.int sd), some (.int net), some (.int (nI fr)), some (.int (nI x)), none, none] [] xm_L T xm_R := by
  refine xa_dn (fun x hxl ih => ?_)
  intro T eT
  have hwr : T 130 47 = nI wr := by rw [eT, lp_a (fun i U => tk2_a (by decide))]; exact hwr0
  have hF : xm_fb T := by rw [eT]; exact xa_lp_inv hF0 (fun i U _ hU => fb_tk2 hU)
  have hz : vp_nar .boolean (T 185 (32 * fr + x)) = T 185 (32 * fr + x) := fb_nar (hF _).2
  refine xa_iload (pc := 111) dX8_takesUp_111 rfl ?_
  refine xa_bipush (pc := 113) (v := 32) dX8_takesUp_113 (by decide) ?_
  refine xa_icmpN_ge (pc := 115) 270 x 32 dX8_takesUp_115 (by decide) rfl rfl (by omega) (by omega) (fun h115 => ?_) (fun h115 => ?_)
  · have g115 : ¬ (x < 32) := by omega
    refine xa_aload_n (pc := 270) dX8_takesUp_270 rfl ?_
    refine xa_iload (pc := 271) dX8_takesUp_271 rfl ?_
    refine xa_callV (pc := 273) xm_o rfl rfl lcX8_215 dX8_takesUp_273 (cm_clears E _ (r := fr) rfl (by omega)) rfl rfl (by decide) (Nat.le_of_ble_eq_true rfl) (by decide) ?_
    rintro _ _ _ ⟨rfl, rfl, rfl⟩
    refine xa_aload_n (pc := 276) dX8_takesUp_276 rfl ?_
    refine xa_iload_n (pc := 277) dX8_takesUp_277 rfl ?_
    refine xa_iload_n (pc := 278) dX8_takesUp_278 rfl ?_
    refine xa_callV (pc := 279) xm_o rfl rfl lcX8_253 dX8_takesUp_279 (cm_writes E _ (wr := wr) (by rw [clr_a (by decide)]; exact hwr) hwl rfl hh _) rfl rfl (by decide) (Nat.le_of_ble_eq_true rfl) (by decide) ?_
    rintro _ _ _ ⟨rfl, rfl, rfl⟩
    have ex9 : x = 32 := by omega
    subst ex9
    exact xa_vret dX8_takesUp_282 rfl ⟨rfl, by rw [← eT], rfl⟩
  · refine xa_bipush (pc := 118) (v := 32) dX8_takesUp_118 (by decide) ?_
    refine xa_aload_n (pc := 120) dX8_takesUp_120 rfl ?_
    refine xa_getI (pc := 121) 8 47 lfX8_225 dX8_takesUp_121 xm_o rfl rfl ?_
    refine xa_imul (pc := 124) dX8_takesUp_124 ?_
    refine xa_iload (pc := 125) dX8_takesUp_125 rfl ?_
    refine xa_iadd (pc := 127) dX8_takesUp_127 ?_
    refine xa_istore (pc := 128) dX8_takesUp_128 (by decide) ?_
    refine xa_bipush (pc := 130) (v := 32) dX8_takesUp_130 (by decide) ?_
    refine xa_iload (pc := 132) dX8_takesUp_132 rfl ?_
    refine xa_imul (pc := 134) dX8_takesUp_134 ?_
    refine xa_iload (pc := 135) dX8_takesUp_135 rfl ?_
    refine xa_iadd (pc := 137) dX8_takesUp_137 ?_
    refine xa_istore (pc := 138) dX8_takesUp_138 (by decide) ?_
    refine xa_aload_n (pc := 140) dX8_takesUp_140 rfl ?_
    refine xa_getA (pc := 141) 8 52 183 lfX8_131 dX8_takesUp_141 xm_o rfl rfl rfl ?_
    refine xa_iload (pc := 144) dX8_takesUp_144 rfl ?_
    refine xa_aload_n (pc := 146) dX8_takesUp_146 rfl ?_
    refine xa_getA (pc := 147) 8 52 183 lfX8_131 dX8_takesUp_147 xm_o rfl rfl rfl ?_
    refine xa_iload (pc := 150) dX8_takesUp_150 rfl ?_
    refine xa_ialdN (pc := 152) ((32 * fr) + x) dX8_takesUp_152 xm_183 rfl (xa_pa (xa_pm rfl rfl) rfl) (by show _ < 1536; omega) (by decide) ?_
    refine xa_iastN (pc := 153) ((32 * wr) + x) dX8_takesUp_153 xm_183 rfl (xa_pa (xa_pm rfl hwr) rfl) (by show _ < 1536; omega) (by decide) ?_
    refine xa_aload_n (pc := 154) dX8_takesUp_154 rfl ?_
    refine xa_getA (pc := 155) 8 53 184 lfX8_134 dX8_takesUp_155 xm_o rfl rfl rfl ?_
    refine xa_iload (pc := 158) dX8_takesUp_158 rfl ?_
    refine xa_aload_n (pc := 160) dX8_takesUp_160 rfl ?_
    refine xa_getA (pc := 161) 8 53 184 lfX8_134 dX8_takesUp_161 xm_o rfl rfl rfl ?_
    refine xa_iload (pc := 164) dX8_takesUp_164 rfl ?_
    refine xa_ialdN (pc := 166) ((32 * fr) + x) dX8_takesUp_166 xm_184 rfl (xa_pa (xa_pm rfl rfl) rfl) (by show _ < 1536; omega) (by decide) ?_
    refine xa_iconst (pc := 167) (v := 1) dX8_takesUp_167 (by decide) ?_
    refine xa_iload_n (pc := 168) dX8_takesUp_168 rfl ?_
    refine xa_ishl (pc := 169) dX8_takesUp_169 ?_
    refine xa_ior (pc := 170) dX8_takesUp_170 ?_
    refine xa_iastN (pc := 171) ((32 * wr) + x) dX8_takesUp_171 xm_184 rfl (xa_pa (xa_pm rfl hwr) rfl) (by show _ < 1536; omega) (by decide) ?_
    refine xa_aload_n (pc := 172) dX8_takesUp_172 rfl ?_
    refine xa_getA (pc := 173) 8 54 185 lfX8_137 dX8_takesUp_173 xm_o rfl rfl rfl ?_
    refine xa_iload (pc := 176) dX8_takesUp_176 rfl ?_
    refine xa_aload_n (pc := 178) dX8_takesUp_178 rfl ?_
    refine xa_getA (pc := 179) 8 54 185 lfX8_137 dX8_takesUp_179 xm_o rfl rfl rfl ?_
    refine xa_iload (pc := 182) dX8_takesUp_182 rfl ?_
    refine xa_zaldN (pc := 184) ((32 * fr) + x) dX8_takesUp_184 xm_185 rfl (xa_pa (xa_pm rfl rfl) rfl) (by show _ < 1536; omega) (by decide) ?_
    refine xa_zastN (pc := 185) ((32 * wr) + x) dX8_takesUp_185 xm_185 rfl (xa_pa (xa_pm rfl hwr) rfl) (by show _ < 1536; omega) (by decide) hz ?_
    refine xa_aload_n (pc := 186) dX8_takesUp_186 rfl ?_
    refine xa_getA (pc := 187) 8 55 186 lfX8_140 dX8_takesUp_187 xm_o rfl rfl rfl ?_
    refine xa_iload (pc := 190) dX8_takesUp_190 rfl ?_
    refine xa_aload_n (pc := 192) dX8_takesUp_192 rfl ?_
    refine xa_getA (pc := 193) 8 55 186 lfX8_140 dX8_takesUp_193 xm_o rfl rfl rfl ?_
    refine xa_iload (pc := 196) dX8_takesUp_196 rfl ?_
    refine xa_ialdN (pc := 198) ((32 * fr) + x) dX8_takesUp_198 xm_186 rfl (xa_pa (xa_pm rfl rfl) rfl) (by show _ < 1536; omega) (by decide) ?_
    refine xa_iconst (pc := 199) (v := 1) dX8_takesUp_199 (by decide) ?_
    refine xa_iload_n (pc := 200) dX8_takesUp_200 rfl ?_
    refine xa_ishl (pc := 201) dX8_takesUp_201 ?_
    refine xa_ior (pc := 202) dX8_takesUp_202 ?_
    refine xa_iastN (pc := 203) ((32 * wr) + x) dX8_takesUp_203 xm_186 rfl (xa_pa (xa_pm rfl hwr) rfl) (by show _ < 1536; omega) (by decide) ?_
    refine xa_aload_n (pc := 204) dX8_takesUp_204 rfl ?_
    refine xa_getA (pc := 205) 8 56 187 lfX8_143 dX8_takesUp_205 xm_o rfl rfl rfl ?_
    refine xa_iload (pc := 208) dX8_takesUp_208 rfl ?_
    refine xa_aload_n (pc := 210) dX8_takesUp_210 rfl ?_
    refine xa_getA (pc := 211) 8 56 187 lfX8_143 dX8_takesUp_211 xm_o rfl rfl rfl ?_
    refine xa_iload (pc := 214) dX8_takesUp_214 rfl ?_
    refine xa_ialdN (pc := 216) ((32 * fr) + x) dX8_takesUp_216 xm_187 rfl (xa_pa (xa_pm rfl rfl) rfl) (by show _ < 1536; omega) (by decide) ?_
    refine xa_iastN (pc := 217) ((32 * wr) + x) dX8_takesUp_217 xm_187 rfl (xa_pa (xa_pm rfl hwr) rfl) (by show _ < 1536; omega) (by decide) ?_
    refine xa_aload_n (pc := 218) dX8_takesUp_218 rfl ?_
    refine xa_getA (pc := 219) 8 57 188 lfX8_146 dX8_takesUp_219 xm_o rfl rfl rfl ?_
    refine xa_iload (pc := 222) dX8_takesUp_222 rfl ?_
    refine xa_aload_n (pc := 224) dX8_takesUp_224 rfl ?_
    refine xa_getA (pc := 225) 8 57 188 lfX8_146 dX8_takesUp_225 xm_o rfl rfl rfl ?_
    refine xa_iload (pc := 228) dX8_takesUp_228 rfl ?_
    refine xa_ialdN (pc := 230) ((32 * fr) + x) dX8_takesUp_230 xm_188 rfl (xa_pa (xa_pm rfl rfl) rfl) (by show _ < 1536; omega) (by decide) ?_
    refine xa_iastN (pc := 231) ((32 * wr) + x) dX8_takesUp_231 xm_188 rfl (xa_pa (xa_pm rfl hwr) rfl) (by show _ < 1536; omega) (by decide) ?_
    refine xa_aload_n (pc := 232) dX8_takesUp_232 rfl ?_
    refine xa_getA (pc := 233) 8 58 189 lfX8_149 dX8_takesUp_233 xm_o rfl rfl rfl ?_
    refine xa_iload (pc := 236) dX8_takesUp_236 rfl ?_
    refine xa_aload_n (pc := 238) dX8_takesUp_238 rfl ?_
    refine xa_getA (pc := 239) 8 58 189 lfX8_149 dX8_takesUp_239 xm_o rfl rfl rfl ?_
    refine xa_iload (pc := 242) dX8_takesUp_242 rfl ?_
    refine xa_ialdN (pc := 244) ((32 * fr) + x) dX8_takesUp_244 xm_189 rfl (xa_pa (xa_pm rfl rfl) rfl) (by show _ < 1536; omega) (by decide) ?_
    refine xa_iastN (pc := 245) ((32 * wr) + x) dX8_takesUp_245 xm_189 rfl (xa_pa (xa_pm rfl hwr) rfl) (by show _ < 1536; omega) (by decide) ?_
    refine xa_aload_n (pc := 246) dX8_takesUp_246 rfl ?_
    refine xa_getA (pc := 247) 8 59 190 lfX8_152 dX8_takesUp_247 xm_o rfl rfl rfl ?_
    refine xa_iload (pc := 250) dX8_takesUp_250 rfl ?_
    refine xa_aload_n (pc := 252) dX8_takesUp_252 rfl ?_
    refine xa_getA (pc := 253) 8 59 190 lfX8_152 dX8_takesUp_253 xm_o rfl rfl rfl ?_
    refine xa_iload (pc := 256) dX8_takesUp_256 rfl ?_
    refine xa_ialdN (pc := 258) ((32 * fr) + x) dX8_takesUp_258 xm_190 rfl (xa_pa (xa_pm rfl rfl) rfl) (by show _ < 1536; omega) (by decide) ?_
    refine xa_iconst (pc := 259) (v := 1) dX8_takesUp_259 (by decide) ?_
    refine xa_iload_n (pc := 260) dX8_takesUp_260 rfl ?_
    refine xa_ishl (pc := 261) dX8_takesUp_261 ?_
    refine xa_ior (pc := 262) dX8_takesUp_262 ?_
    refine xa_iastN (pc := 263) ((32 * wr) + x) dX8_takesUp_263 xm_190 rfl (xa_pa (xa_pm rfl hwr) rfl) (by show _ < 1536; omega) (by decide) ?_
    refine xa_iinc (pc := 264) (v := nI (x + 1)) dX8_takesUp_264 rfl (by decide) (nI_1 _) ?_
    refine xa_goto (pc := 267) (tgt := 111) dX8_takesUp_267 (by decide) ?_
    exact xa_fgk (ih (by omega) _ (by rw [xa_lp, ← eT]; rfl)) (And.intro rfl (And.intro rfl (And.intro rfl (And.intro rfl (And.intro rfl (And.intro rfl trivial))))))
set_option maxHeartbeats 4000000 in
theorem lm_tk13 (E : xa_EV) (S : xa_AH) {h fr wr : Nat} (hh : h < 12) (hfr : fr < 48) (hwl : wr < 24) (sd net : Int32) (hwr0 : S 130 47 = nI wr) (hF0 : xm_fb S) : ∀ x, x ≤ 16 → ∀ T, T = xa_lp (xm_tk1 wr fr (1 <<< (net &&& 31))) x S → xa_W E mX8_takesUp (xa_Z E mX8_takesUp xm_L (xa_pV (xm_wr (xm_clr fr (xa_lp (xm_tk2 wr fr (1 <<< (net &&& 31))) 32 (xa_lp (xm_tk1 wr fr (1 <<< (net &&& 31))) 16 S))) wr h net) xm_R)) 0 0 13 [some (.ref 130), some (.int (nI h)), some (.int sd), some (.int net), some (.int (nI fr)), some (.int (nI x)), none, none] [] xm_L T xm_R := by
  refine xa_dn (fun x hxl ih => ?_)
  intro T eT
  have hwr : T 130 47 = nI wr := by rw [eT, lp_a (fun i U => tk1_a (by decide))]; exact hwr0
  have hF : xm_fb T := by rw [eT]; exact xa_lp_inv hF0 (fun i U _ hU => fb_tk1 hU)
  have hz : vp_nar .boolean (T 179 (16 * fr + x)) = T 179 (16 * fr + x) := fb_nar (hF _).1
  refine xa_iload (pc := 13) dX8_takesUp_13 rfl ?_
  refine xa_bipush (pc := 15) (v := 16) dX8_takesUp_15 (by decide) ?_
  refine xa_icmpN_ge (pc := 17) 108 x 16 dX8_takesUp_17 (by decide) rfl rfl (by omega) (by omega) (fun h17 => ?_) (fun h17 => ?_)
  · have g17 : ¬ (x < 16) := by omega
    refine xa_iconst (pc := 108) (v := 0) dX8_takesUp_108 (by decide) ?_
    refine xa_istore (pc := 109) dX8_takesUp_109 (by decide) ?_
    have ex9 : x = 16 := by omega
    subst ex9
    rw [← eT]
    exact xa_fgk (lm_tk111 E T hh hfr hwl sd net hwr hF 0 (Nat.zero_le _) _ rfl) (And.intro rfl (And.intro rfl (And.intro rfl (And.intro rfl (And.intro rfl (And.intro rfl trivial))))))
  · refine xa_bipush (pc := 20) (v := 16) dX8_takesUp_20 (by decide) ?_
    refine xa_aload_n (pc := 22) dX8_takesUp_22 rfl ?_
    refine xa_getI (pc := 23) 8 47 lfX8_225 dX8_takesUp_23 xm_o rfl rfl ?_
    refine xa_imul (pc := 26) dX8_takesUp_26 ?_
    refine xa_iload (pc := 27) dX8_takesUp_27 rfl ?_
    refine xa_iadd (pc := 29) dX8_takesUp_29 ?_
    refine xa_istore (pc := 30) dX8_takesUp_30 (by decide) ?_
    refine xa_bipush (pc := 32) (v := 16) dX8_takesUp_32 (by decide) ?_
    refine xa_iload (pc := 34) dX8_takesUp_34 rfl ?_
    refine xa_imul (pc := 36) dX8_takesUp_36 ?_
    refine xa_iload (pc := 37) dX8_takesUp_37 rfl ?_
    refine xa_iadd (pc := 39) dX8_takesUp_39 ?_
    refine xa_istore (pc := 40) dX8_takesUp_40 (by decide) ?_
    refine xa_aload_n (pc := 42) dX8_takesUp_42 rfl ?_
    refine xa_getA (pc := 43) 8 48 179 lfX8_119 dX8_takesUp_43 xm_o rfl rfl rfl ?_
    refine xa_iload (pc := 46) dX8_takesUp_46 rfl ?_
    refine xa_aload_n (pc := 48) dX8_takesUp_48 rfl ?_
    refine xa_getA (pc := 49) 8 48 179 lfX8_119 dX8_takesUp_49 xm_o rfl rfl rfl ?_
    refine xa_iload (pc := 52) dX8_takesUp_52 rfl ?_
    refine xa_zaldN (pc := 54) ((16 * fr) + x) dX8_takesUp_54 xm_179 rfl (xa_pa (xa_pm rfl rfl) rfl) (by show _ < 768; omega) (by decide) ?_
    refine xa_zastN (pc := 55) ((16 * wr) + x) dX8_takesUp_55 xm_179 rfl (xa_pa (xa_pm rfl hwr) rfl) (by show _ < 768; omega) (by decide) hz ?_
    refine xa_aload_n (pc := 56) dX8_takesUp_56 rfl ?_
    refine xa_getA (pc := 57) 8 49 180 lfX8_122 dX8_takesUp_57 xm_o rfl rfl rfl ?_
    refine xa_iload (pc := 60) dX8_takesUp_60 rfl ?_
    refine xa_aload_n (pc := 62) dX8_takesUp_62 rfl ?_
    refine xa_getA (pc := 63) 8 49 180 lfX8_122 dX8_takesUp_63 xm_o rfl rfl rfl ?_
    refine xa_iload (pc := 66) dX8_takesUp_66 rfl ?_
    refine xa_ialdN (pc := 68) ((16 * fr) + x) dX8_takesUp_68 xm_180 rfl (xa_pa (xa_pm rfl rfl) rfl) (by show _ < 768; omega) (by decide) ?_
    refine xa_iastN (pc := 69) ((16 * wr) + x) dX8_takesUp_69 xm_180 rfl (xa_pa (xa_pm rfl hwr) rfl) (by show _ < 768; omega) (by decide) ?_
    refine xa_aload_n (pc := 70) dX8_takesUp_70 rfl ?_
    refine xa_getA (pc := 71) 8 50 181 lfX8_125 dX8_takesUp_71 xm_o rfl rfl rfl ?_
    refine xa_iload (pc := 74) dX8_takesUp_74 rfl ?_
    refine xa_aload_n (pc := 76) dX8_takesUp_76 rfl ?_
    refine xa_getA (pc := 77) 8 50 181 lfX8_125 dX8_takesUp_77 xm_o rfl rfl rfl ?_
    refine xa_iload (pc := 80) dX8_takesUp_80 rfl ?_
    refine xa_ialdN (pc := 82) ((16 * fr) + x) dX8_takesUp_82 xm_181 rfl (xa_pa (xa_pm rfl rfl) rfl) (by show _ < 768; omega) (by decide) ?_
    refine xa_iastN (pc := 83) ((16 * wr) + x) dX8_takesUp_83 xm_181 rfl (xa_pa (xa_pm rfl hwr) rfl) (by show _ < 768; omega) (by decide) ?_
    refine xa_aload_n (pc := 84) dX8_takesUp_84 rfl ?_
    refine xa_getA (pc := 85) 8 51 182 lfX8_128 dX8_takesUp_85 xm_o rfl rfl rfl ?_
    refine xa_iload (pc := 88) dX8_takesUp_88 rfl ?_
    refine xa_aload_n (pc := 90) dX8_takesUp_90 rfl ?_
    refine xa_getA (pc := 91) 8 51 182 lfX8_128 dX8_takesUp_91 xm_o rfl rfl rfl ?_
    refine xa_iload (pc := 94) dX8_takesUp_94 rfl ?_
    refine xa_ialdN (pc := 96) ((16 * fr) + x) dX8_takesUp_96 xm_182 rfl (xa_pa (xa_pm rfl rfl) rfl) (by show _ < 768; omega) (by decide) ?_
    refine xa_iconst (pc := 97) (v := 1) dX8_takesUp_97 (by decide) ?_
    refine xa_iload_n (pc := 98) dX8_takesUp_98 rfl ?_
    refine xa_ishl (pc := 99) dX8_takesUp_99 ?_
    refine xa_ior (pc := 100) dX8_takesUp_100 ?_
    refine xa_iastN (pc := 101) ((16 * wr) + x) dX8_takesUp_101 xm_182 rfl (xa_pa (xa_pm rfl hwr) rfl) (by show _ < 768; omega) (by decide) ?_
    refine xa_iinc (pc := 102) (v := nI (x + 1)) dX8_takesUp_102 rfl (by decide) (nI_1 _) ?_
    refine xa_goto (pc := 105) (tgt := 13) dX8_takesUp_105 (by decide) ?_
    exact xa_fgk (ih (by omega) _ (by rw [xa_lp, ← eT]; rfl)) (And.intro rfl (And.intro rfl (And.intro rfl (And.intro rfl (And.intro rfl (And.intro rfl trivial))))))
set_option maxHeartbeats 4000000 in
theorem cm_takesUp (E : xa_EV) (S : xa_AH) (hF : xm_fb S) {wr : Nat} (hwr : S 130 47 = nI wr) (hwl : wr < 24) {h : Nat} {xh : Int32} (eh : xh = nI h) {sd : Nat} {xsd : Int32} (esd : xsd = nI sd) (hh : h < 12) (hsd : sd < 2) (net : Int32) : xa_Ct E mX8_takesUp [.ref 130, .int xh, .int xsd, .int net] xm_L S xm_R (xa_pV (xm_tk h sd wr net S) xm_R) := by
  subst eh; subst esd
  refine xa_Ct.of [some (.ref 130), some (.int (nI h)), some (.int (nI sd)), some (.int net), none, none, none, none] rfl (Nat.le_of_ble_eq_true rfl) (by simp [Value.category]) rfl ?_
  refine xa_bipush (pc := 0) (v := 24) dX8_takesUp_0 (by decide) ?_
  refine xa_iconst (pc := 2) (v := 2) dX8_takesUp_2 (by decide) ?_
  refine xa_iload_n (pc := 3) dX8_takesUp_3 rfl ?_
  refine xa_imul (pc := 4) dX8_takesUp_4 ?_
  refine xa_iadd (pc := 5) dX8_takesUp_5 ?_
  refine xa_iload_n (pc := 6) dX8_takesUp_6 rfl ?_
  refine xa_iadd (pc := 7) dX8_takesUp_7 ?_
  refine xa_istore (pc := 8) dX8_takesUp_8 (by decide) ?_
  refine xa_iconst (pc := 10) (v := 0) dX8_takesUp_10 (by decide) ?_
  refine xa_istore (pc := 11) dX8_takesUp_11 (by decide) ?_
  unfold xm_tk xm_tkC
  exact xa_fgk (lm_tk13 E S hh (fr := 24 + 2 * h + sd) (by omega) hwl (nI sd) net hwr hF 0 (Nat.zero_le _) _ rfl) (And.intro rfl (And.intro rfl (And.intro rfl (And.intro rfl (And.intro (congrArg (fun z => some (Value.int z)) (xa_pa (xa_pa rfl (xa_pm rfl rfl)) rfl)) (And.intro rfl trivial))))))
