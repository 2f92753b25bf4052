def xm_ha1 (h k row : Nat) (want at0 kp : Int32) (s : Nat) (S : xa_AH) : xa_AH := if ¬ S 147 s = nI k ∨ (S 181 row >>> (nI s &&& 31)) &&& 1 = 1 then S else if xm_spk S h s = true then (if S 151 s = 2 ∧ S 149 s &&& want = want then xm_due S h s at0 else S) else if kp = nI h ∧ ¬ S 158 (32 * h + s) = 0 ∧ S 160 (32 * h + s) &&& want = want then xm_due S h s at0 else S
theorem xm_wf_ha1 {nh ns h k row s : Nat} {want at0 kp : Int32} {S : xa_AH} (hw : xm_wf nh ns S) : xm_wf nh ns (xm_ha1 h k row want at0 kp s S) := by
  unfold xm_ha1; split
  · exact hw
  · split
    · split
      · exact xm_wf_due hw
      · exact hw
    · split
      · exact xm_wf_due hw
      · exact hw
theorem xm_nm_ha1 {nh h k row s : Nat} {want at0 kp : Int32} {S : xa_AH} (hw : xm_nm nh S) : xm_nm nh (xm_ha1 h k row want at0 kp s S) := by
  unfold xm_ha1; split
  · exact hw
  · split
    · split
      · exact xm_nm_due hw
      · exact hw
    · split
      · exact xm_nm_due hw
      · exact hw
def xm_haB (nh ns : Nat) (S : xa_AH) (h l k : Nat) (t kp : Int32) : xa_AH := xa_lp (xm_ha1 h k (16 * l + k) (S 180 (16 * l + k)) (t + 1 + xm_lot (nI h) t) kp) ns S
def xm_haC (nh ns : Nat) (S : xa_AH) (h l k : Nat) (t kp : Int32) : xa_AH := if kp = -1 ∨ kp = nI h then xm_haB nh ns S h l k t kp else S
def xm_haD (nh ns : Nat) (S : xa_AH) (h l k : Nat) (t : Int32) : xa_AH := xm_haC nh ns S h l k t (xm_first (xm_kep S (S 177 l) (S 176 l)) nh)
def xm_ha (nh ns : Nat) (h l k : Nat) (t : Int32) (S : xa_AH) : xa_AH := xm_haD nh ns (if ¬ S 164 (16 * h + k) = 0 ∧ S 165 (16 * h + k) = S 180 (16 * l + k) ∧ S 181 (16 * l + k) &&& (xm_kn ns S h (nI k) t ^^^ (-1)) = 0 then xa_up S 164 (16 * h + k) 0 else S) h l k t
set_option maxHeartbeats 4000000 in
theorem lm_ha128 (E : xa_EV) (S : xa_AH) {nh ns : Nat} (hW0 : xm_wf nh ns S) (hN0 : xm_nm nh S) {h l k : Nat} (hh : h < 12) (hl : l < 24) (hk : k < 16) (t : Int32) (want at0 kp : Int32) : ∀ x, x ≤ ns → ∀ T, T = xa_lp (xm_ha1 h k (16 * l + k) want at0 kp) x S → xa_W E mX8_hearsAsk (xa_Z E mX8_hearsAsk xm_L (xa_pV (xa_lp (xm_ha1 h k (16 * l + k) want at0 kp) ns S) xm_R)) 0 0 128 [some (.ref 130), some (.int (nI h)), some (.int (nI l)), some (.int (nI k)), some (.int t), some (.int (nI (16 * l + k))), none, some (.int kp), some (.int at0), some (.int want), some (.int (nI x)), none] [] xm_L T xm_R := by
  refine xa_dn (fun x hxl ih => ?_)
  intro T eT
  have hW : xm_wf nh ns T := by rw [eT]; exact xa_lp_inv hW0 (fun i U _ hU => xm_wf_ha1 hU)
  have hN : xm_nm nh T := by rw [eT]; exact xa_lp_inv hN0 (fun i U _ hU => xm_nm_ha1 hU)
  obtain ⟨w1, w2, w3, w4, w5⟩ := id hW
  refine xa_iload (pc := 128) dX8_hearsAsk_128 rfl ?_
  refine xa_aload_n (pc := 130) dX8_hearsAsk_130 rfl ?_
  refine xa_getI (pc := 131) 8 26 lfX8_170 dX8_hearsAsk_131 xm_o rfl rfl ?_
  refine xa_icmpN_ge (pc := 134) 270 x ns dX8_hearsAsk_134 (by decide) rfl w4 (by omega) (by omega) (fun h134 => ?_) (fun h134 => ?_)
  · have g134 : ¬ (x < ns) := by omega
    have ex9 : x = ns := by omega
    subst ex9
    exact xa_vret dX8_hearsAsk_270 rfl ⟨rfl, eT.symm, rfl⟩
  · refine xa_aload_n (pc := 137) dX8_hearsAsk_137 rfl ?_
    refine xa_getA (pc := 138) 8 16 147 lfX8_56 dX8_hearsAsk_138 xm_o rfl rfl rfl ?_
    refine xa_iload (pc := 141) dX8_hearsAsk_141 rfl ?_
    refine xa_ialdN (pc := 143) x dX8_hearsAsk_143 xm_147 rfl rfl (by show _ < 32; omega) (by decide) ?_
    refine xa_iload_n (pc := 144) dX8_hearsAsk_144 rfl ?_
    refine xa_icmp_ne (pc := 145) 264 dX8_hearsAsk_145 (by decide) (fun h145 => ?_) (fun h145 => ?_)
    · refine xa_iinc (pc := 264) (v := nI (x + 1)) dX8_hearsAsk_264 rfl (by decide) (nI_1 _) ?_
      refine xa_goto (pc := 267) (tgt := 128) dX8_hearsAsk_267 (by decide) ?_
      exact xa_fgk (ih (by omega) _ (by rw [xa_lp, ← eT]; simp [xm_ha1, h134, h145])) (And.intro rfl (And.intro rfl (And.intro rfl (And.intro rfl (And.intro rfl (And.intro rfl (And.intro rfl (And.intro rfl (And.intro rfl (And.intro rfl trivial))))))))))
    · refine xa_aload_n (pc := 148) dX8_hearsAsk_148 rfl ?_
      refine xa_getA (pc := 149) 8 50 181 lfX8_125 dX8_hearsAsk_149 xm_o rfl rfl rfl ?_
      refine xa_iload (pc := 152) dX8_hearsAsk_152 rfl ?_
      refine xa_ialdN (pc := 154) (16 * l + k) dX8_hearsAsk_154 xm_181 rfl rfl (by show _ < 768; omega) (by decide) ?_
      refine xa_iload (pc := 155) dX8_hearsAsk_155 rfl ?_
      refine xa_ishr (pc := 157) dX8_hearsAsk_157 ?_
      refine xa_iconst (pc := 158) (v := 1) dX8_hearsAsk_158 (by decide) ?_
      refine xa_iand (pc := 159) dX8_hearsAsk_159 ?_
      refine xa_iconst (pc := 160) (v := 1) dX8_hearsAsk_160 (by decide) ?_
      refine xa_icmp_ne (pc := 161) 167 dX8_hearsAsk_161 (by decide) (fun h161 => ?_) (fun h161 => ?_)
      · refine xa_bipush (pc := 167) (v := 32) dX8_hearsAsk_167 (by decide) ?_
        refine xa_iload_n (pc := 169) dX8_hearsAsk_169 rfl ?_
        refine xa_imul (pc := 170) dX8_hearsAsk_170 ?_
        refine xa_iload (pc := 171) dX8_hearsAsk_171 rfl ?_
        refine xa_iadd (pc := 173) dX8_hearsAsk_173 ?_
        refine xa_istore (pc := 174) dX8_hearsAsk_174 (by decide) ?_
        refine xa_aload_n (pc := 176) dX8_hearsAsk_176 rfl ?_
        refine xa_iload_n (pc := 177) dX8_hearsAsk_177 rfl ?_
        refine xa_iload (pc := 178) dX8_hearsAsk_178 rfl ?_
        refine xa_callV (pc := 180) xm_o rfl rfl lcX8_270 dX8_hearsAsk_180 (cm_speaksFor E _ hW rfl rfl (by omega) (by omega)) rfl rfl (by decide) (Nat.le_of_ble_eq_true rfl) (by decide) ?_
        rintro _ _ _ ⟨rfl, rfl, rfl⟩
        refine xa_if_eq (pc := 183) 224 dX8_hearsAsk_183 (by decide) (fun h183 => ?_) (fun h183 => ?_)
        · have h183 := xa_b_0.mp h183
          refine xa_iload (pc := 224) dX8_hearsAsk_224 rfl ?_
          refine xa_iload_n (pc := 226) dX8_hearsAsk_226 rfl ?_
          refine xa_icmp_ne (pc := 227) 264 dX8_hearsAsk_227 (by decide) (fun h227 => ?_) (fun h227 => ?_)
          · refine xa_iinc (pc := 264) (v := nI (x + 1)) dX8_hearsAsk_264 rfl (by decide) (nI_1 _) ?_
            refine xa_goto (pc := 267) (tgt := 128) dX8_hearsAsk_267 (by decide) ?_
            exact xa_fgk (ih (by omega) _ (by rw [xa_lp, ← eT]; simp [xm_ha1, h134, h145, h161, h183, h227])) (And.intro rfl (And.intro rfl (And.intro rfl (And.intro rfl (And.intro rfl (And.intro rfl (And.intro rfl (And.intro rfl (And.intro rfl (And.intro rfl trivial))))))))))
          · refine xa_aload_n (pc := 230) dX8_hearsAsk_230 rfl ?_
            refine xa_getA (pc := 231) 8 27 158 lfX8_86 dX8_hearsAsk_231 xm_o rfl rfl rfl ?_
            refine xa_iload (pc := 234) dX8_hearsAsk_234 rfl ?_
            refine xa_zaldN (pc := 236) ((32 * h) + x) dX8_hearsAsk_236 xm_158 rfl (xa_pa (xa_pm rfl rfl) rfl) (by show _ < 384; omega) (by decide) ?_
            refine xa_if_eq (pc := 237) 264 dX8_hearsAsk_237 (by decide) (fun h237 => ?_) (fun h237 => ?_)
            · refine xa_iinc (pc := 264) (v := nI (x + 1)) dX8_hearsAsk_264 rfl (by decide) (nI_1 _) ?_
              refine xa_goto (pc := 267) (tgt := 128) dX8_hearsAsk_267 (by decide) ?_
              exact xa_fgk (ih (by omega) _ (by rw [xa_lp, ← eT]; simp [xm_ha1, h134, h145, h161, h183, h227, h237])) (And.intro rfl (And.intro rfl (And.intro rfl (And.intro rfl (And.intro rfl (And.intro rfl (And.intro rfl (And.intro rfl (And.intro rfl (And.intro rfl trivial))))))))))
            · refine xa_aload_n (pc := 240) dX8_hearsAsk_240 rfl ?_
              refine xa_getA (pc := 241) 8 29 160 lfX8_92 dX8_hearsAsk_241 xm_o rfl rfl rfl ?_
              refine xa_iload (pc := 244) dX8_hearsAsk_244 rfl ?_
              refine xa_ialdN (pc := 246) ((32 * h) + x) dX8_hearsAsk_246 xm_160 rfl (xa_pa (xa_pm rfl rfl) rfl) (by show _ < 384; omega) (by decide) ?_
              refine xa_iload (pc := 247) dX8_hearsAsk_247 rfl ?_
              refine xa_iand (pc := 249) dX8_hearsAsk_249 ?_
              refine xa_iload (pc := 250) dX8_hearsAsk_250 rfl ?_
              refine xa_icmp_ne (pc := 252) 264 dX8_hearsAsk_252 (by decide) (fun h252 => ?_) (fun h252 => ?_)
              · refine xa_iinc (pc := 264) (v := nI (x + 1)) dX8_hearsAsk_264 rfl (by decide) (nI_1 _) ?_
                refine xa_goto (pc := 267) (tgt := 128) dX8_hearsAsk_267 (by decide) ?_
                exact xa_fgk (ih (by omega) _ (by rw [xa_lp, ← eT]; simp [xm_ha1, h134, h145, h161, h183, h227, h237, h252])) (And.intro rfl (And.intro rfl (And.intro rfl (And.intro rfl (And.intro rfl (And.intro rfl (And.intro rfl (And.intro rfl (And.intro rfl (And.intro rfl trivial))))))))))
              · refine xa_aload_n (pc := 255) dX8_hearsAsk_255 rfl ?_
                refine xa_iload_n (pc := 256) dX8_hearsAsk_256 rfl ?_
                refine xa_iload (pc := 257) dX8_hearsAsk_257 rfl ?_
                refine xa_iload (pc := 259) dX8_hearsAsk_259 rfl ?_
                refine xa_callV (pc := 261) xm_o rfl rfl lcX8_302 dX8_hearsAsk_261 (cm_isDue E _ rfl rfl (by omega) (by omega) _) rfl rfl (by decide) (Nat.le_of_ble_eq_true rfl) (by decide) ?_
                rintro _ _ _ ⟨rfl, rfl, rfl⟩
                refine xa_iinc (pc := 264) (v := nI (x + 1)) dX8_hearsAsk_264 rfl (by decide) (nI_1 _) ?_
                refine xa_goto (pc := 267) (tgt := 128) dX8_hearsAsk_267 (by decide) ?_
                exact xa_fgk (ih (by omega) _ (by rw [xa_lp, ← eT]; simp [xm_ha1, h134, h145, h161, h183, h227, h237, h252])) (And.intro rfl (And.intro rfl (And.intro rfl (And.intro rfl (And.intro rfl (And.intro rfl (And.intro rfl (And.intro rfl (And.intro rfl (And.intro rfl trivial))))))))))
        · have h183 := xa_b_n0.mp h183
          refine xa_aload_n (pc := 186) dX8_hearsAsk_186 rfl ?_
          refine xa_getA (pc := 187) 8 20 151 lfX8_68 dX8_hearsAsk_187 xm_o rfl rfl rfl ?_
          refine xa_iload (pc := 190) dX8_hearsAsk_190 rfl ?_
          refine xa_ialdN (pc := 192) x dX8_hearsAsk_192 xm_151 rfl rfl (by show _ < 32; omega) (by decide) ?_
          refine xa_iconst (pc := 193) (v := 2) dX8_hearsAsk_193 (by decide) ?_
          refine xa_icmp_ne (pc := 194) 264 dX8_hearsAsk_194 (by decide) (fun h194 => ?_) (fun h194 => ?_)
          · refine xa_iinc (pc := 264) (v := nI (x + 1)) dX8_hearsAsk_264 rfl (by decide) (nI_1 _) ?_
            refine xa_goto (pc := 267) (tgt := 128) dX8_hearsAsk_267 (by decide) ?_
            exact xa_fgk (ih (by omega) _ (by rw [xa_lp, ← eT]; simp [xm_ha1, h134, h145, h161, h183, h194])) (And.intro rfl (And.intro rfl (And.intro rfl (And.intro rfl (And.intro rfl (And.intro rfl (And.intro rfl (And.intro rfl (And.intro rfl (And.intro rfl trivial))))))))))
          · refine xa_aload_n (pc := 197) dX8_hearsAsk_197 rfl ?_
            refine xa_getA (pc := 198) 8 18 149 lfX8_62 dX8_hearsAsk_198 xm_o rfl rfl rfl ?_
            refine xa_iload (pc := 201) dX8_hearsAsk_201 rfl ?_
            refine xa_ialdN (pc := 203) x dX8_hearsAsk_203 xm_149 rfl rfl (by show _ < 32; omega) (by decide) ?_
            refine xa_iload (pc := 204) dX8_hearsAsk_204 rfl ?_
            refine xa_iand (pc := 206) dX8_hearsAsk_206 ?_
            refine xa_iload (pc := 207) dX8_hearsAsk_207 rfl ?_
            refine xa_icmp_ne (pc := 209) 264 dX8_hearsAsk_209 (by decide) (fun h209 => ?_) (fun h209 => ?_)
            · refine xa_iinc (pc := 264) (v := nI (x + 1)) dX8_hearsAsk_264 rfl (by decide) (nI_1 _) ?_
              refine xa_goto (pc := 267) (tgt := 128) dX8_hearsAsk_267 (by decide) ?_
              exact xa_fgk (ih (by omega) _ (by rw [xa_lp, ← eT]; simp [xm_ha1, h134, h145, h161, h183, h194, h209])) (And.intro rfl (And.intro rfl (And.intro rfl (And.intro rfl (And.intro rfl (And.intro rfl (And.intro rfl (And.intro rfl (And.intro rfl (And.intro rfl trivial))))))))))
            · refine xa_aload_n (pc := 212) dX8_hearsAsk_212 rfl ?_
              refine xa_iload_n (pc := 213) dX8_hearsAsk_213 rfl ?_
              refine xa_iload (pc := 214) dX8_hearsAsk_214 rfl ?_
              refine xa_iload (pc := 216) dX8_hearsAsk_216 rfl ?_
              refine xa_callV (pc := 218) xm_o rfl rfl lcX8_302 dX8_hearsAsk_218 (cm_isDue E _ rfl rfl (by omega) (by omega) _) rfl rfl (by decide) (Nat.le_of_ble_eq_true rfl) (by decide) ?_
              rintro _ _ _ ⟨rfl, rfl, rfl⟩
              refine xa_goto (pc := 221) (tgt := 264) dX8_hearsAsk_221 (by decide) ?_
              refine xa_iinc (pc := 264) (v := nI (x + 1)) dX8_hearsAsk_264 rfl (by decide) (nI_1 _) ?_
              refine xa_goto (pc := 267) (tgt := 128) dX8_hearsAsk_267 (by decide) ?_
              exact xa_fgk (ih (by omega) _ (by rw [xa_lp, ← eT]; simp [xm_ha1, h134, h145, h161, h183, h194, h209])) (And.intro rfl (And.intro rfl (And.intro rfl (And.intro rfl (And.intro rfl (And.intro rfl (And.intro rfl (And.intro rfl (And.intro rfl (And.intro rfl trivial))))))))))
      · refine xa_goto (pc := 164) (tgt := 264) dX8_hearsAsk_164 (by decide) ?_
        refine xa_iinc (pc := 264) (v := nI (x + 1)) dX8_hearsAsk_264 rfl (by decide) (nI_1 _) ?_
        refine xa_goto (pc := 267) (tgt := 128) dX8_hearsAsk_267 (by decide) ?_
        exact xa_fgk (ih (by omega) _ (by rw [xa_lp, ← eT]; simp [xm_ha1, h134, h145, h161])) (And.intro rfl (And.intro rfl (And.intro rfl (And.intro rfl (And.intro rfl (And.intro rfl (And.intro rfl (And.intro rfl (And.intro rfl (And.intro rfl trivial))))))))))
set_option maxHeartbeats 4000000 in
theorem lm_ha103 (E : xa_EV) (S : xa_AH) {nh ns : Nat} (hW : xm_wf nh ns S) (hN : xm_nm nh S) {h l k : Nat} (hh : h < 12) (hl : l < 24) (hk : k < 16) (t : Int32) (kp : Int32) : xa_W E mX8_hearsAsk (xa_Z E mX8_hearsAsk xm_L (xa_pV (xm_haB nh ns S h l k t kp) xm_R)) 0 0 103 [some (.ref 130), some (.int (nI h)), some (.int (nI l)), some (.int (nI k)), some (.int t), some (.int (nI (16 * l + k))), none, some (.int kp), none, none, none, none] [] xm_L S xm_R := by
  obtain ⟨w1, w2, w3, w4, w5⟩ := id hW
  refine xa_iload (pc := 103) dX8_hearsAsk_103 rfl ?_
  refine xa_iconst (pc := 105) (v := 1) dX8_hearsAsk_105 (by decide) ?_
  refine xa_iadd (pc := 106) dX8_hearsAsk_106 ?_
  refine xa_iload_n (pc := 107) dX8_hearsAsk_107 rfl ?_
  refine xa_iload (pc := 108) dX8_hearsAsk_108 rfl ?_
  refine xa_callS (pc := 110) lcX8_204 dX8_hearsAsk_110 (cm_lot E _ _ _ _ _) rfl rfl (by decide) (Nat.le_of_ble_eq_true rfl) (by decide) ?_
  rintro _ _ _ ⟨rfl, rfl, rfl⟩
  refine xa_iadd (pc := 113) dX8_hearsAsk_113 ?_
  refine xa_istore (pc := 114) dX8_hearsAsk_114 (by decide) ?_
  refine xa_aload_n (pc := 116) dX8_hearsAsk_116 rfl ?_
  refine xa_getA (pc := 117) 8 49 180 lfX8_122 dX8_hearsAsk_117 xm_o rfl rfl rfl ?_
  refine xa_iload (pc := 120) dX8_hearsAsk_120 rfl ?_
  refine xa_ialdN (pc := 122) (16 * l + k) dX8_hearsAsk_122 xm_180 rfl rfl (by show _ < 768; omega) (by decide) ?_
  refine xa_istore (pc := 123) dX8_hearsAsk_123 (by decide) ?_
  refine xa_iconst (pc := 125) (v := 0) dX8_hearsAsk_125 (by decide) ?_
  refine xa_istore (pc := 126) dX8_hearsAsk_126 (by decide) ?_
  exact xa_fgk (lm_ha128 E S hW hN hh hl hk t _ _ _ 0 (Nat.zero_le _) S rfl) (And.intro rfl (And.intro rfl (And.intro rfl (And.intro rfl (And.intro rfl (And.intro rfl (And.intro rfl (And.intro rfl (And.intro rfl (And.intro rfl trivial))))))))))
set_option maxHeartbeats 4000000 in
theorem lm_ha72 (E : xa_EV) (S : xa_AH) {nh ns : Nat} (hW : xm_wf nh ns S) (hN : xm_nm nh S) {h l k : Nat} (hh : h < 12) (hl : l < 24) (hk : k < 16) (t : Int32) : xa_W E mX8_hearsAsk (xa_Z E mX8_hearsAsk xm_L (xa_pV (xm_haD nh ns S h l k t) xm_R)) 0 0 72 [some (.ref 130), some (.int (nI h)), some (.int (nI l)), some (.int (nI k)), some (.int t), some (.int (nI (16 * l + k))), none, none, none, none, none, none] [] xm_L S xm_R := by
  obtain ⟨w1, w2, w3, w4, w5⟩ := id hW
  refine xa_aload_n (pc := 72) dX8_hearsAsk_72 rfl ?_
  refine xa_aload_n (pc := 73) dX8_hearsAsk_73 rfl ?_
  refine xa_getA (pc := 74) 8 46 177 lfX8_116 dX8_hearsAsk_74 xm_o rfl rfl rfl ?_
  refine xa_iload_n (pc := 77) dX8_hearsAsk_77 rfl ?_
  refine xa_ialdN (pc := 78) l dX8_hearsAsk_78 xm_177 rfl rfl (by show _ < 24; omega) (by decide) ?_
  refine xa_aload_n (pc := 79) dX8_hearsAsk_79 rfl ?_
  refine xa_getA (pc := 80) 8 45 176 lfX8_113 dX8_hearsAsk_80 xm_o rfl rfl rfl ?_
  refine xa_iload_n (pc := 83) dX8_hearsAsk_83 rfl ?_
  refine xa_ialdN (pc := 84) l dX8_hearsAsk_84 xm_176 rfl rfl (by show _ < 24; omega) (by decide) ?_
  refine xa_callV (pc := 85) xm_o rfl rfl lcX8_299 dX8_hearsAsk_85 (cm_keeperOn E _ hW _ _) rfl rfl (by decide) (Nat.le_of_ble_eq_true rfl) (by decide) ?_
  rintro _ _ _ ⟨rfl, rfl, rfl⟩
  refine xa_istore (pc := 88) dX8_hearsAsk_88 (by decide) ?_
  refine xa_iload (pc := 90) dX8_hearsAsk_90 rfl ?_
  refine xa_iconst (pc := 92) (v := (-1)) dX8_hearsAsk_92 (by decide) ?_
  refine xa_icmp_eq (pc := 93) 103 dX8_hearsAsk_93 (by decide) (fun h93 => ?_) (fun h93 => ?_)
  · rw [xm_haD, xm_haC, if_pos (Or.inl h93)]
    exact xa_fgk (lm_ha103 E S hW hN hh hl hk t _) (And.intro rfl (And.intro rfl (And.intro rfl (And.intro rfl (And.intro rfl (And.intro rfl (And.intro rfl trivial)))))))
  · refine xa_iload (pc := 96) dX8_hearsAsk_96 rfl ?_
    refine xa_iload_n (pc := 98) dX8_hearsAsk_98 rfl ?_
    refine xa_icmp_eq (pc := 99) 103 dX8_hearsAsk_99 (by decide) (fun h99 => ?_) (fun h99 => ?_)
    · rw [xm_haD, xm_haC, if_pos (Or.inr h99)]
      exact xa_fgk (lm_ha103 E S hW hN hh hl hk t _) (And.intro rfl (And.intro rfl (And.intro rfl (And.intro rfl (And.intro rfl (And.intro rfl (And.intro rfl trivial)))))))
    · rw [xm_haD, xm_haC, if_neg (fun q => q.elim h93 h99)]
      exact xa_vret dX8_hearsAsk_102 rfl ⟨rfl, rfl, rfl⟩
set_option maxHeartbeats 4000000 in
theorem cm_hearsAsk (E : xa_EV) (S : xa_AH) {nh ns : Nat} (hW : xm_wf nh ns S) (hN : xm_nm nh S) {h : Nat} {xh : Int32} (eh : xh = nI h) {l : Nat} {xl : Int32} (el : xl = nI l) {k : Nat} {xk : Int32} (ek : xk = nI k) (hh : h < 12) (hl : l < 24) (hk : k < 16) (t : Int32) : xa_Ct E mX8_hearsAsk [.ref 130, .int xh, .int xl, .int xk, .int t] xm_L S xm_R (xa_pV (xm_ha nh ns h l k t S) xm_R) := by
  subst eh; subst el; subst ek
  refine xa_Ct.of [some (.ref 130), some (.int (nI h)), some (.int (nI l)), some (.int (nI k)), some (.int t), none, none, none, none, none, none, none] rfl (Nat.le_of_ble_eq_true rfl) (by simp [Value.category]) rfl ?_
  obtain ⟨w1, w2, w3, w4, w5⟩ := id hW
  refine xa_bipush (pc := 0) (v := 16) dX8_hearsAsk_0 (by decide) ?_
  refine xa_iload_n (pc := 2) dX8_hearsAsk_2 rfl ?_
  refine xa_imul (pc := 3) dX8_hearsAsk_3 ?_
  refine xa_iload_n (pc := 4) dX8_hearsAsk_4 rfl ?_
  refine xa_iadd (pc := 5) dX8_hearsAsk_5 ?_
  refine xa_istore (pc := 6) dX8_hearsAsk_6 (by decide) ?_
  refine xa_bipush (pc := 8) (v := 16) dX8_hearsAsk_8 (by decide) ?_
  refine xa_iload_n (pc := 10) dX8_hearsAsk_10 rfl ?_
  refine xa_imul (pc := 11) dX8_hearsAsk_11 ?_
  refine xa_iload_n (pc := 12) dX8_hearsAsk_12 rfl ?_
  refine xa_iadd (pc := 13) dX8_hearsAsk_13 ?_
  refine xa_istore (pc := 14) dX8_hearsAsk_14 (by decide) ?_
  refine xa_aload_n (pc := 16) dX8_hearsAsk_16 rfl ?_
  refine xa_getA (pc := 17) 8 33 164 lfX8_104 dX8_hearsAsk_17 xm_o rfl rfl rfl ?_
  refine xa_iload (pc := 20) dX8_hearsAsk_20 rfl ?_
  refine xa_zaldN (pc := 22) ((16 * h) + k) dX8_hearsAsk_22 xm_164 rfl (xa_pa (xa_pm rfl rfl) rfl) (by show _ < 192; omega) (by decide) ?_
  refine xa_if_eq (pc := 23) 72 dX8_hearsAsk_23 (by decide) (fun h23 => ?_) (fun h23 => ?_)
  · rw [xm_ha, if_neg (fun q => q.1 h23)]
    exact xa_fgk (lm_ha72 E S hW hN hh hl hk t) (And.intro rfl (And.intro rfl (And.intro rfl (And.intro rfl (And.intro rfl (And.intro (congrArg (fun z => some (Value.int z)) (xa_pa (xa_pm rfl rfl) rfl)) trivial))))))
  · refine xa_aload_n (pc := 26) dX8_hearsAsk_26 rfl ?_
    refine xa_getA (pc := 27) 8 34 165 lfX8_107 dX8_hearsAsk_27 xm_o rfl rfl rfl ?_
    refine xa_iload (pc := 30) dX8_hearsAsk_30 rfl ?_
    refine xa_ialdN (pc := 32) ((16 * h) + k) dX8_hearsAsk_32 xm_165 rfl (xa_pa (xa_pm rfl rfl) rfl) (by show _ < 192; omega) (by decide) ?_
    refine xa_aload_n (pc := 33) dX8_hearsAsk_33 rfl ?_
    refine xa_getA (pc := 34) 8 49 180 lfX8_122 dX8_hearsAsk_34 xm_o rfl rfl rfl ?_
    refine xa_iload (pc := 37) dX8_hearsAsk_37 rfl ?_
    refine xa_ialdN (pc := 39) ((16 * l) + k) dX8_hearsAsk_39 xm_180 rfl (xa_pa (xa_pm rfl rfl) rfl) (by show _ < 768; omega) (by decide) ?_
    refine xa_icmp_ne (pc := 40) 72 dX8_hearsAsk_40 (by decide) (fun h40 => ?_) (fun h40 => ?_)
    · rw [xm_ha, if_neg (fun q => h40 q.2.1)]
      exact xa_fgk (lm_ha72 E S hW hN hh hl hk t) (And.intro rfl (And.intro rfl (And.intro rfl (And.intro rfl (And.intro rfl (And.intro (congrArg (fun z => some (Value.int z)) (xa_pa (xa_pm rfl rfl) rfl)) trivial))))))
    · refine xa_aload_n (pc := 43) dX8_hearsAsk_43 rfl ?_
      refine xa_getA (pc := 44) 8 50 181 lfX8_125 dX8_hearsAsk_44 xm_o rfl rfl rfl ?_
      refine xa_iload (pc := 47) dX8_hearsAsk_47 rfl ?_
      refine xa_ialdN (pc := 49) ((16 * l) + k) dX8_hearsAsk_49 xm_181 rfl (xa_pa (xa_pm rfl rfl) rfl) (by show _ < 768; omega) (by decide) ?_
      refine xa_aload_n (pc := 50) dX8_hearsAsk_50 rfl ?_
      refine xa_iload_n (pc := 51) dX8_hearsAsk_51 rfl ?_
      refine xa_iload_n (pc := 52) dX8_hearsAsk_52 rfl ?_
      refine xa_iload (pc := 53) dX8_hearsAsk_53 rfl ?_
      refine xa_callV (pc := 55) xm_o rfl rfl lcX8_266 dX8_hearsAsk_55 (cm_knownTo E _ hW rfl (by omega) _ _) rfl rfl (by decide) (Nat.le_of_ble_eq_true rfl) (by decide) ?_
      rintro _ _ _ ⟨rfl, rfl, rfl⟩
      refine xa_iconst (pc := 58) (v := (-1)) dX8_hearsAsk_58 (by decide) ?_
      refine xa_ixor (pc := 59) dX8_hearsAsk_59 ?_
      refine xa_iand (pc := 60) dX8_hearsAsk_60 ?_
      refine xa_if_ne (pc := 61) 72 dX8_hearsAsk_61 (by decide) (fun h61 => ?_) (fun h61 => ?_)
      · rw [xm_ha, if_neg (fun q => h61 q.2.2)]
        exact xa_fgk (lm_ha72 E S hW hN hh hl hk t) (And.intro rfl (And.intro rfl (And.intro rfl (And.intro rfl (And.intro rfl (And.intro (congrArg (fun z => some (Value.int z)) (xa_pa (xa_pm rfl rfl) rfl)) trivial))))))
      · refine xa_aload_n (pc := 64) dX8_hearsAsk_64 rfl ?_
        refine xa_getA (pc := 65) 8 33 164 lfX8_104 dX8_hearsAsk_65 xm_o rfl rfl rfl ?_
        refine xa_iload (pc := 68) dX8_hearsAsk_68 rfl ?_
        refine xa_iconst (pc := 70) (v := 0) dX8_hearsAsk_70 (by decide) ?_
        refine xa_zastN (pc := 71) ((16 * h) + k) dX8_hearsAsk_71 xm_164 rfl (xa_pa (xa_pm rfl rfl) rfl) (by show _ < 192; omega) (by decide) rfl ?_
        rw [xm_ha, if_pos ⟨h23, h40, h61⟩]
        exact xa_fgk (lm_ha72 E (xa_up S 164 (16 * h + k) 0) (xm_wf_up hW rfl) (xm_nm_up hN rfl) hh hl hk t) (And.intro rfl (And.intro rfl (And.intro rfl (And.intro rfl (And.intro rfl (And.intro (congrArg (fun z => some (Value.int z)) (xa_pa (xa_pm rfl rfl) rfl)) trivial))))))
