/-! ===== the law, a call ===== -/
def lw_K (E : xa_EV) (b Ls : Nat) (xs : Nat → Int32) (j kc ks : Nat) : Prop := ∀ (nh ns : Nat) (pw : Nat → Nat) (La : List Nat) (T S : xa_AH) (R : xa_AR) (kc2 ks2 : Nat), RX nh ns 0 pw La T R S → xm_fb S → kc - 34 ≤ kc2 → ks - 866 ≤ ks2 → xa_W E mL (zL b Ls xs) kc2 ks2 975 [some (.ref 191), some (.ref (ci 0 129)), some (.ref 130), some (.int (nI (6 * j)))] [] (La ++ xm_L) (jT T S) (jR R)
theorem PXA_o {pw : Nat → Nat} {v : Int32} {nh ns : Nat} {S : xa_AH} : ∀ r L2 T2 R2, PXA pw (.int v) nh ns S r L2 T2 R2 → (∃ v, r = some (.int v)) ∧ (∀ a, a ∈ L2 → a % 256 < 130) ∧ ∀ a k x, R2 a k = some x → x ∈ L2 := fun r L2 T2 R2 h => ⟨⟨v, h.1.symm⟩, h.2.c_ok, h.2.c_cl⟩
set_option maxHeartbeats 4000000 in
theorem lw_c0 (E : xa_EV) {nh ns kc ks b Ls j : Nat} {pw : Nat → Nat} {xs : Nat → Int32} {La : List Nat} {T S : xa_AH} {R : xa_AR} (hX : RX nh ns 0 pw La T R S) (hF : xm_fb S) (hj : 6 * j + 6 ≤ Ls) (hL : Ls ≤ 3072) (hkc : 34 ≤ kc) (hks : 866 ≤ ks) (K : lw_K E b Ls xs j kc ks) : xa_W E mL (zL b Ls xs) kc ks 140 [some (.ref 191), some (.ref (ci 0 129)), some (.ref 130), some (.int (nI (6 * j)))] [] (La ++ xm_L) (jT T S) (jR R) := by
  refine xa_aload_n (pc := 140) dL_law_140 rfl ?_
  refine xa_aload_n (pc := 141) dL_law_141 rfl ?_
  refine xa_iload_n (pc := 142) dL_law_142 rfl ?_
  refine xa_iconst (pc := 143) (v := 1) dL_law_143 (by decide) ?_
  refine xa_iadd (pc := 144) dL_law_144 ?_
  refine xl_sld (pc := 145) (6 * j + 1) dL_law_145 (xa_pa rfl rfl) (by omega) hL ?_
  refine xa_aload_n (pc := 146) dL_law_146 rfl ?_
  refine xa_iload_n (pc := 147) dL_law_147 rfl ?_
  refine xa_iconst (pc := 148) (v := 2) dL_law_148 (by decide) ?_
  refine xa_iadd (pc := 149) dL_law_149 ?_
  refine xl_sld (pc := 150) (6 * j + 2) dL_law_150 (xa_pa rfl rfl) (by omega) hL ?_
  refine xa_aload_n (pc := 151) dL_law_151 rfl ?_
  refine xa_iload_n (pc := 152) dL_law_152 rfl ?_
  refine xa_iconst (pc := 153) (v := 3) dL_law_153 (by decide) ?_
  refine xa_iadd (pc := 154) dL_law_154 ?_
  refine xl_sld (pc := 155) (6 * j + 3) dL_law_155 (xa_pa rfl rfl) (by omega) hL ?_
  refine xa_aload_n (pc := 156) dL_law_156 rfl ?_
  refine xa_iload_n (pc := 157) dL_law_157 rfl ?_
  refine xa_iconst (pc := 158) (v := 4) dL_law_158 (by decide) ?_
  refine xa_iadd (pc := 159) dL_law_159 ?_
  refine xl_sld (pc := 160) (6 * j + 4) dL_law_160 (xa_pa rfl rfl) (by omega) hL ?_
  refine xl_callA (pc := 161) hX.c_ok PXA_o hX.c_m129 (kd_129 _) rfl lcL_13 dL_law_161 (cx_host E hX (xs (6 * j + 1)) (xs (6 * j + 2)) (xs (6 * j + 3)) (xs (6 * j + 4))) rfl rfl (by decide) (Nat.le_of_ble_eq_true rfl) (Nat.le_trans (by decide) hkc) (Nat.le_trans (by decide) hks) (fun a ha => by rw [show a = 191 from ha]; decide) (fun a ha => by simp at ha) (fun a ha => by simp at ha; rcases ha with e | e | e <;> rw [e] <;> first | exact Or.inl hX.c_m129 | exact Or.inr (by decide)) ?_
  rintro _ L2 T2 R2 ⟨rfl, hY⟩
  refine xa_aload_n (pc := 164) dL_law_164 rfl ?_
  refine xa_aload_n (pc := 165) dL_law_165 rfl ?_
  refine xa_iload_n (pc := 166) dL_law_166 rfl ?_
  refine xa_iconst (pc := 167) (v := 1) dL_law_167 (by decide) ?_
  refine xa_iadd (pc := 168) dL_law_168 ?_
  refine xl_sld (pc := 169) (6 * j + 1) dL_law_169 (xa_pa rfl rfl) (by omega) hL ?_
  refine xa_aload_n (pc := 170) dL_law_170 rfl ?_
  refine xa_iload_n (pc := 171) dL_law_171 rfl ?_
  refine xa_iconst (pc := 172) (v := 2) dL_law_172 (by decide) ?_
  refine xa_iadd (pc := 173) dL_law_173 ?_
  refine xl_sld (pc := 174) (6 * j + 2) dL_law_174 (xa_pa rfl rfl) (by omega) hL ?_
  refine xa_aload_n (pc := 175) dL_law_175 rfl ?_
  refine xa_iload_n (pc := 176) dL_law_176 rfl ?_
  refine xa_iconst (pc := 177) (v := 3) dL_law_177 (by decide) ?_
  refine xa_iadd (pc := 178) dL_law_178 ?_
  refine xl_sld (pc := 179) (6 * j + 3) dL_law_179 (xa_pa rfl rfl) (by omega) hL ?_
  refine xa_aload_n (pc := 180) dL_law_180 rfl ?_
  refine xa_iload_n (pc := 181) dL_law_181 rfl ?_
  refine xa_iconst (pc := 182) (v := 4) dL_law_182 (by decide) ?_
  refine xa_iadd (pc := 183) dL_law_183 ?_
  refine xl_sld (pc := 184) (6 * j + 4) dL_law_184 (xa_pa rfl rfl) (by omega) hL ?_
  refine xl_callM (pc := 185) hY.c_ok rfl rfl lcL_17 dL_law_185 (cm_host E S hX.xm_wf (xs (6 * j + 1)) (xs (6 * j + 2)) (xs (6 * j + 3)) (xs (6 * j + 4))) rfl rfl (by decide) (Nat.le_of_ble_eq_true rfl) (by decide) ?_
  refine xa_icmp_eq (pc := 188) 975 dL_law_188 (by decide) (fun _ => ?_) (fun hc => absurd rfl hc)
  exact K _ _ _ _ _ _ _ _ _ hY (fb_host hF) (Nat.sub_le_sub_left (show mX7_host.2.2.2.2.cells ≤ 34 by decide) kc) (Nat.sub_le_sub_left (show mX7_host.2.2.2.2.slots ≤ 866 by decide) ks)
set_option maxHeartbeats 4000000 in
theorem lw_c1 (E : xa_EV) {nh ns kc ks b Ls j : Nat} {pw : Nat → Nat} {xs : Nat → Int32} {La : List Nat} {T S : xa_AH} {R : xa_AR} (hX : RX nh ns 0 pw La T R S) (hF : xm_fb S) (hj : 6 * j + 6 ≤ Ls) (hL : Ls ≤ 3072) (hkc : 34 ≤ kc) (hks : 866 ≤ ks) (K : lw_K E b Ls xs j kc ks) : xa_W E mL (zL b Ls xs) kc ks 193 [some (.ref 191), some (.ref (ci 0 129)), some (.ref 130), some (.int (nI (6 * j)))] [] (La ++ xm_L) (jT T S) (jR R) := by
  refine xa_aload_n (pc := 193) dL_law_193 rfl ?_
  refine xa_aload_n (pc := 194) dL_law_194 rfl ?_
  refine xa_iload_n (pc := 195) dL_law_195 rfl ?_
  refine xa_iconst (pc := 196) (v := 1) dL_law_196 (by decide) ?_
  refine xa_iadd (pc := 197) dL_law_197 ?_
  refine xl_sld (pc := 198) (6 * j + 1) dL_law_198 (xa_pa rfl rfl) (by omega) hL ?_
  refine xa_aload_n (pc := 199) dL_law_199 rfl ?_
  refine xa_iload_n (pc := 200) dL_law_200 rfl ?_
  refine xa_iconst (pc := 201) (v := 2) dL_law_201 (by decide) ?_
  refine xa_iadd (pc := 202) dL_law_202 ?_
  refine xl_sld (pc := 203) (6 * j + 2) dL_law_203 (xa_pa rfl rfl) (by omega) hL ?_
  refine xa_aload_n (pc := 204) dL_law_204 rfl ?_
  refine xa_iload_n (pc := 205) dL_law_205 rfl ?_
  refine xa_iconst (pc := 206) (v := 3) dL_law_206 (by decide) ?_
  refine xa_iadd (pc := 207) dL_law_207 ?_
  refine xl_sld (pc := 208) (6 * j + 3) dL_law_208 (xa_pa rfl rfl) (by omega) hL ?_
  refine xa_aload_n (pc := 209) dL_law_209 rfl ?_
  refine xa_iload_n (pc := 210) dL_law_210 rfl ?_
  refine xa_iconst (pc := 211) (v := 4) dL_law_211 (by decide) ?_
  refine xa_iadd (pc := 212) dL_law_212 ?_
  refine xl_sld (pc := 213) (6 * j + 4) dL_law_213 (xa_pa rfl rfl) (by omega) hL ?_
  refine xa_aload_n (pc := 214) dL_law_214 rfl ?_
  refine xa_iload_n (pc := 215) dL_law_215 rfl ?_
  refine xa_iconst (pc := 216) (v := 5) dL_law_216 (by decide) ?_
  refine xa_iadd (pc := 217) dL_law_217 ?_
  refine xl_sld (pc := 218) (6 * j + 5) dL_law_218 (xa_pa rfl rfl) (by omega) hL ?_
  refine xl_callA (pc := 219) hX.c_ok PXA_o hX.c_m129 (kd_129 _) rfl lcL_18 dL_law_219 (cx_offer E hX (xs (6 * j + 1)) (xs (6 * j + 2)) (xs (6 * j + 3)) (xs (6 * j + 4)) (xs (6 * j + 5))) rfl rfl (by decide) (Nat.le_of_ble_eq_true rfl) (Nat.le_trans (by decide) hkc) (Nat.le_trans (by decide) hks) (fun a ha => by rw [show a = 191 from ha]; decide) (fun a ha => by simp at ha) (fun a ha => by simp at ha; rcases ha with e | e | e <;> rw [e] <;> first | exact Or.inl hX.c_m129 | exact Or.inr (by decide)) ?_
  rintro _ L2 T2 R2 ⟨rfl, hY⟩
  refine xa_aload_n (pc := 222) dL_law_222 rfl ?_
  refine xa_aload_n (pc := 223) dL_law_223 rfl ?_
  refine xa_iload_n (pc := 224) dL_law_224 rfl ?_
  refine xa_iconst (pc := 225) (v := 1) dL_law_225 (by decide) ?_
  refine xa_iadd (pc := 226) dL_law_226 ?_
  refine xl_sld (pc := 227) (6 * j + 1) dL_law_227 (xa_pa rfl rfl) (by omega) hL ?_
  refine xa_aload_n (pc := 228) dL_law_228 rfl ?_
  refine xa_iload_n (pc := 229) dL_law_229 rfl ?_
  refine xa_iconst (pc := 230) (v := 2) dL_law_230 (by decide) ?_
  refine xa_iadd (pc := 231) dL_law_231 ?_
  refine xl_sld (pc := 232) (6 * j + 2) dL_law_232 (xa_pa rfl rfl) (by omega) hL ?_
  refine xa_aload_n (pc := 233) dL_law_233 rfl ?_
  refine xa_iload_n (pc := 234) dL_law_234 rfl ?_
  refine xa_iconst (pc := 235) (v := 3) dL_law_235 (by decide) ?_
  refine xa_iadd (pc := 236) dL_law_236 ?_
  refine xl_sld (pc := 237) (6 * j + 3) dL_law_237 (xa_pa rfl rfl) (by omega) hL ?_
  refine xa_aload_n (pc := 238) dL_law_238 rfl ?_
  refine xa_iload_n (pc := 239) dL_law_239 rfl ?_
  refine xa_iconst (pc := 240) (v := 4) dL_law_240 (by decide) ?_
  refine xa_iadd (pc := 241) dL_law_241 ?_
  refine xl_sld (pc := 242) (6 * j + 4) dL_law_242 (xa_pa rfl rfl) (by omega) hL ?_
  refine xa_aload_n (pc := 243) dL_law_243 rfl ?_
  refine xa_iload_n (pc := 244) dL_law_244 rfl ?_
  refine xa_iconst (pc := 245) (v := 5) dL_law_245 (by decide) ?_
  refine xa_iadd (pc := 246) dL_law_246 ?_
  refine xl_sld (pc := 247) (6 * j + 5) dL_law_247 (xa_pa rfl rfl) (by omega) hL ?_
  refine xl_callM (pc := 248) hY.c_ok rfl rfl lcL_22 dL_law_248 (cm_offer E S hX.xm_wf (xs (6 * j + 1)) (xs (6 * j + 2)) (xs (6 * j + 3)) (xs (6 * j + 4)) (xs (6 * j + 5))) rfl rfl (by decide) (Nat.le_of_ble_eq_true rfl) (by decide) ?_
  refine xa_icmp_eq (pc := 251) 975 dL_law_251 (by decide) (fun _ => ?_) (fun hc => absurd rfl hc)
  exact K _ _ _ _ _ _ _ _ _ hY (fb_offer hF) (Nat.sub_le_sub_left (show mX7_offer.2.2.2.2.cells ≤ 34 by decide) kc) (Nat.sub_le_sub_left (show mX7_offer.2.2.2.2.slots ≤ 866 by decide) ks)
set_option maxHeartbeats 4000000 in
theorem lw_c2 (E : xa_EV) {nh ns kc ks b Ls j : Nat} {pw : Nat → Nat} {xs : Nat → Int32} {La : List Nat} {T S : xa_AH} {R : xa_AR} (hX : RX nh ns 0 pw La T R S) (hF : xm_fb S) (hj : 6 * j + 6 ≤ Ls) (hL : Ls ≤ 3072) (hkc : 34 ≤ kc) (hks : 866 ≤ ks) (K : lw_K E b Ls xs j kc ks) : xa_W E mL (zL b Ls xs) kc ks 256 [some (.ref 191), some (.ref (ci 0 129)), some (.ref 130), some (.int (nI (6 * j)))] [] (La ++ xm_L) (jT T S) (jR R) := by
  refine xa_aload_n (pc := 256) dL_law_256 rfl ?_
  refine xa_aload_n (pc := 257) dL_law_257 rfl ?_
  refine xa_iload_n (pc := 258) dL_law_258 rfl ?_
  refine xa_iconst (pc := 259) (v := 1) dL_law_259 (by decide) ?_
  refine xa_iadd (pc := 260) dL_law_260 ?_
  refine xl_sld (pc := 261) (6 * j + 1) dL_law_261 (xa_pa rfl rfl) (by omega) hL ?_
  refine xa_aload_n (pc := 262) dL_law_262 rfl ?_
  refine xa_iload_n (pc := 263) dL_law_263 rfl ?_
  refine xa_iconst (pc := 264) (v := 2) dL_law_264 (by decide) ?_
  refine xa_iadd (pc := 265) dL_law_265 ?_
  refine xl_sld (pc := 266) (6 * j + 2) dL_law_266 (xa_pa rfl rfl) (by omega) hL ?_
  refine xa_aload_n (pc := 267) dL_law_267 rfl ?_
  refine xa_iload_n (pc := 268) dL_law_268 rfl ?_
  refine xa_iconst (pc := 269) (v := 3) dL_law_269 (by decide) ?_
  refine xa_iadd (pc := 270) dL_law_270 ?_
  refine xl_sld (pc := 271) (6 * j + 3) dL_law_271 (xa_pa rfl rfl) (by omega) hL ?_
  refine xa_aload_n (pc := 272) dL_law_272 rfl ?_
  refine xa_iload_n (pc := 273) dL_law_273 rfl ?_
  refine xa_iconst (pc := 274) (v := 4) dL_law_274 (by decide) ?_
  refine xa_iadd (pc := 275) dL_law_275 ?_
  refine xl_sld (pc := 276) (6 * j + 4) dL_law_276 (xa_pa rfl rfl) (by omega) hL ?_
  refine xa_aload_n (pc := 277) dL_law_277 rfl ?_
  refine xa_iload_n (pc := 278) dL_law_278 rfl ?_
  refine xa_iconst (pc := 279) (v := 5) dL_law_279 (by decide) ?_
  refine xa_iadd (pc := 280) dL_law_280 ?_
  refine xl_sld (pc := 281) (6 * j + 5) dL_law_281 (xa_pa rfl rfl) (by omega) hL ?_
  refine xl_callA (pc := 282) hX.c_ok PXA_o hX.c_m129 (kd_129 _) rfl lcL_23 dL_law_282 (cx_lie E hX (xs (6 * j + 1)) (xs (6 * j + 2)) (xs (6 * j + 3)) (xs (6 * j + 4)) (xs (6 * j + 5))) rfl rfl (by decide) (Nat.le_of_ble_eq_true rfl) (Nat.le_trans (by decide) hkc) (Nat.le_trans (by decide) hks) (fun a ha => by rw [show a = 191 from ha]; decide) (fun a ha => by simp at ha) (fun a ha => by simp at ha; rcases ha with e | e | e <;> rw [e] <;> first | exact Or.inl hX.c_m129 | exact Or.inr (by decide)) ?_
  rintro _ L2 T2 R2 ⟨rfl, hY⟩
  refine xa_aload_n (pc := 285) dL_law_285 rfl ?_
  refine xa_aload_n (pc := 286) dL_law_286 rfl ?_
  refine xa_iload_n (pc := 287) dL_law_287 rfl ?_
  refine xa_iconst (pc := 288) (v := 1) dL_law_288 (by decide) ?_
  refine xa_iadd (pc := 289) dL_law_289 ?_
  refine xl_sld (pc := 290) (6 * j + 1) dL_law_290 (xa_pa rfl rfl) (by omega) hL ?_
  refine xa_aload_n (pc := 291) dL_law_291 rfl ?_
  refine xa_iload_n (pc := 292) dL_law_292 rfl ?_
  refine xa_iconst (pc := 293) (v := 2) dL_law_293 (by decide) ?_
  refine xa_iadd (pc := 294) dL_law_294 ?_
  refine xl_sld (pc := 295) (6 * j + 2) dL_law_295 (xa_pa rfl rfl) (by omega) hL ?_
  refine xa_aload_n (pc := 296) dL_law_296 rfl ?_
  refine xa_iload_n (pc := 297) dL_law_297 rfl ?_
  refine xa_iconst (pc := 298) (v := 3) dL_law_298 (by decide) ?_
  refine xa_iadd (pc := 299) dL_law_299 ?_
  refine xl_sld (pc := 300) (6 * j + 3) dL_law_300 (xa_pa rfl rfl) (by omega) hL ?_
  refine xa_aload_n (pc := 301) dL_law_301 rfl ?_
  refine xa_iload_n (pc := 302) dL_law_302 rfl ?_
  refine xa_iconst (pc := 303) (v := 4) dL_law_303 (by decide) ?_
  refine xa_iadd (pc := 304) dL_law_304 ?_
  refine xl_sld (pc := 305) (6 * j + 4) dL_law_305 (xa_pa rfl rfl) (by omega) hL ?_
  refine xa_aload_n (pc := 306) dL_law_306 rfl ?_
  refine xa_iload_n (pc := 307) dL_law_307 rfl ?_
  refine xa_iconst (pc := 308) (v := 5) dL_law_308 (by decide) ?_
  refine xa_iadd (pc := 309) dL_law_309 ?_
  refine xl_sld (pc := 310) (6 * j + 5) dL_law_310 (xa_pa rfl rfl) (by omega) hL ?_
  refine xl_callM (pc := 311) hY.c_ok rfl rfl lcL_26 dL_law_311 (cm_lie E S hX.xm_wf (xs (6 * j + 1)) (xs (6 * j + 2)) (xs (6 * j + 3)) (xs (6 * j + 4)) (xs (6 * j + 5))) rfl rfl (by decide) (Nat.le_of_ble_eq_true rfl) (by decide) ?_
  refine xa_icmp_eq (pc := 314) 975 dL_law_314 (by decide) (fun _ => ?_) (fun hc => absurd rfl hc)
  exact K _ _ _ _ _ _ _ _ _ hY (fb_lie hF) (Nat.sub_le_sub_left (show mX7_lie.2.2.2.2.cells ≤ 34 by decide) kc) (Nat.sub_le_sub_left (show mX7_lie.2.2.2.2.slots ≤ 866 by decide) ks)
set_option maxHeartbeats 4000000 in
theorem lw_c3 (E : xa_EV) {nh ns kc ks b Ls j : Nat} {pw : Nat → Nat} {xs : Nat → Int32} {La : List Nat} {T S : xa_AH} {R : xa_AR} (hX : RX nh ns 0 pw La T R S) (hF : xm_fb S) (hj : 6 * j + 6 ≤ Ls) (hL : Ls ≤ 3072) (hkc : 34 ≤ kc) (hks : 866 ≤ ks) (K : lw_K E b Ls xs j kc ks) : xa_W E mL (zL b Ls xs) kc ks 319 [some (.ref 191), some (.ref (ci 0 129)), some (.ref 130), some (.int (nI (6 * j)))] [] (La ++ xm_L) (jT T S) (jR R) := by
  refine xa_aload_n (pc := 319) dL_law_319 rfl ?_
  refine xa_aload_n (pc := 320) dL_law_320 rfl ?_
  refine xa_iload_n (pc := 321) dL_law_321 rfl ?_
  refine xa_iconst (pc := 322) (v := 1) dL_law_322 (by decide) ?_
  refine xa_iadd (pc := 323) dL_law_323 ?_
  refine xl_sld (pc := 324) (6 * j + 1) dL_law_324 (xa_pa rfl rfl) (by omega) hL ?_
  refine xl_callC (pc := 325) hX.c_ok hX.c_m129 (kd_129 _) rfl lcL_27 dL_law_325 (cx_drop E hX (xs (6 * j + 1))) rfl rfl (by decide) (Nat.le_of_ble_eq_true rfl) (by decide) ?_
  rintro _ T2 R2 ⟨rfl, hY⟩
  refine xa_aload_n (pc := 328) dL_law_328 rfl ?_
  refine xa_aload_n (pc := 329) dL_law_329 rfl ?_
  refine xa_iload_n (pc := 330) dL_law_330 rfl ?_
  refine xa_iconst (pc := 331) (v := 1) dL_law_331 (by decide) ?_
  refine xa_iadd (pc := 332) dL_law_332 ?_
  refine xl_sld (pc := 333) (6 * j + 1) dL_law_333 (xa_pa rfl rfl) (by omega) hL ?_
  refine xl_callM (pc := 334) hY.c_ok rfl rfl lcL_31 dL_law_334 (cm_drop E S hX.xm_wf (xs (6 * j + 1))) rfl rfl (by decide) (Nat.le_of_ble_eq_true rfl) (by decide) ?_
  refine xa_icmp_eq (pc := 337) 975 dL_law_337 (by decide) (fun _ => ?_) (fun hc => absurd rfl hc)
  exact K _ _ _ _ _ _ _ _ _ hY (fb_drop hF) (by omega) (by omega)
set_option maxHeartbeats 4000000 in
theorem lw_c4 (E : xa_EV) {nh ns kc ks b Ls j : Nat} {pw : Nat → Nat} {xs : Nat → Int32} {La : List Nat} {T S : xa_AH} {R : xa_AR} (hX : RX nh ns 0 pw La T R S) (hF : xm_fb S) (hj : 6 * j + 6 ≤ Ls) (hL : Ls ≤ 3072) (hkc : 34 ≤ kc) (hks : 866 ≤ ks) (K : lw_K E b Ls xs j kc ks) : xa_W E mL (zL b Ls xs) kc ks 342 [some (.ref 191), some (.ref (ci 0 129)), some (.ref 130), some (.int (nI (6 * j)))] [] (La ++ xm_L) (jT T S) (jR R) := by
  refine xa_aload_n (pc := 342) dL_law_342 rfl ?_
  refine xa_aload_n (pc := 343) dL_law_343 rfl ?_
  refine xa_iload_n (pc := 344) dL_law_344 rfl ?_
  refine xa_iconst (pc := 345) (v := 1) dL_law_345 (by decide) ?_
  refine xa_iadd (pc := 346) dL_law_346 ?_
  refine xl_sld (pc := 347) (6 * j + 1) dL_law_347 (xa_pa rfl rfl) (by omega) hL ?_
  refine xa_aload_n (pc := 348) dL_law_348 rfl ?_
  refine xa_iload_n (pc := 349) dL_law_349 rfl ?_
  refine xa_iconst (pc := 350) (v := 2) dL_law_350 (by decide) ?_
  refine xa_iadd (pc := 351) dL_law_351 ?_
  refine xl_sld (pc := 352) (6 * j + 2) dL_law_352 (xa_pa rfl rfl) (by omega) hL ?_
  refine xl_callC (pc := 353) hX.c_ok hX.c_m129 (kd_129 _) rfl lcL_32 dL_law_353 (cx_change E hX (xs (6 * j + 1)) (xs (6 * j + 2))) rfl rfl (by decide) (Nat.le_of_ble_eq_true rfl) (by decide) ?_
  rintro _ T2 R2 ⟨rfl, hY⟩
  refine xa_aload_n (pc := 356) dL_law_356 rfl ?_
  refine xa_aload_n (pc := 357) dL_law_357 rfl ?_
  refine xa_iload_n (pc := 358) dL_law_358 rfl ?_
  refine xa_iconst (pc := 359) (v := 1) dL_law_359 (by decide) ?_
  refine xa_iadd (pc := 360) dL_law_360 ?_
  refine xl_sld (pc := 361) (6 * j + 1) dL_law_361 (xa_pa rfl rfl) (by omega) hL ?_
  refine xa_aload_n (pc := 362) dL_law_362 rfl ?_
  refine xa_iload_n (pc := 363) dL_law_363 rfl ?_
  refine xa_iconst (pc := 364) (v := 2) dL_law_364 (by decide) ?_
  refine xa_iadd (pc := 365) dL_law_365 ?_
  refine xl_sld (pc := 366) (6 * j + 2) dL_law_366 (xa_pa rfl rfl) (by omega) hL ?_
  refine xl_callM (pc := 367) hY.c_ok rfl rfl lcL_36 dL_law_367 (cm_change E S hX.xm_wf (xs (6 * j + 1)) (xs (6 * j + 2))) rfl rfl (by decide) (Nat.le_of_ble_eq_true rfl) (by decide) ?_
  refine xa_icmp_eq (pc := 370) 975 dL_law_370 (by decide) (fun _ => ?_) (fun hc => absurd rfl hc)
  exact K _ _ _ _ _ _ _ _ _ hY (fb_change hF) (by omega) (by omega)
set_option maxHeartbeats 4000000 in
theorem lw_c5 (E : xa_EV) {nh ns kc ks b Ls j : Nat} {pw : Nat → Nat} {xs : Nat → Int32} {La : List Nat} {T S : xa_AH} {R : xa_AR} (hX : RX nh ns 0 pw La T R S) (hF : xm_fb S) (hj : 6 * j + 6 ≤ Ls) (hL : Ls ≤ 3072) (hkc : 34 ≤ kc) (hks : 866 ≤ ks) (K : lw_K E b Ls xs j kc ks) : xa_W E mL (zL b Ls xs) kc ks 375 [some (.ref 191), some (.ref (ci 0 129)), some (.ref 130), some (.int (nI (6 * j)))] [] (La ++ xm_L) (jT T S) (jR R) := by
  refine xa_aload_n (pc := 375) dL_law_375 rfl ?_
  refine xa_aload_n (pc := 376) dL_law_376 rfl ?_
  refine xa_iload_n (pc := 377) dL_law_377 rfl ?_
  refine xa_iconst (pc := 378) (v := 1) dL_law_378 (by decide) ?_
  refine xa_iadd (pc := 379) dL_law_379 ?_
  refine xl_sld (pc := 380) (6 * j + 1) dL_law_380 (xa_pa rfl rfl) (by omega) hL ?_
  refine xa_aload_n (pc := 381) dL_law_381 rfl ?_
  refine xa_iload_n (pc := 382) dL_law_382 rfl ?_
  refine xa_iconst (pc := 383) (v := 2) dL_law_383 (by decide) ?_
  refine xa_iadd (pc := 384) dL_law_384 ?_
  refine xl_sld (pc := 385) (6 * j + 2) dL_law_385 (xa_pa rfl rfl) (by omega) hL ?_
  refine xa_aload_n (pc := 386) dL_law_386 rfl ?_
  refine xa_iload_n (pc := 387) dL_law_387 rfl ?_
  refine xa_iconst (pc := 388) (v := 3) dL_law_388 (by decide) ?_
  refine xa_iadd (pc := 389) dL_law_389 ?_
  refine xl_sld (pc := 390) (6 * j + 3) dL_law_390 (xa_pa rfl rfl) (by omega) hL ?_
  refine xl_callC (pc := 391) hX.c_ok hX.c_m129 (kd_129 _) rfl lcL_37 dL_law_391 (cx_ask E hX (xs (6 * j + 1)) (xs (6 * j + 2)) (xs (6 * j + 3))) rfl rfl (by decide) (Nat.le_of_ble_eq_true rfl) (by decide) ?_
  rintro _ T2 R2 ⟨rfl, hY⟩
  refine xa_aload_n (pc := 394) dL_law_394 rfl ?_
  refine xa_aload_n (pc := 395) dL_law_395 rfl ?_
  refine xa_iload_n (pc := 396) dL_law_396 rfl ?_
  refine xa_iconst (pc := 397) (v := 1) dL_law_397 (by decide) ?_
  refine xa_iadd (pc := 398) dL_law_398 ?_
  refine xl_sld (pc := 399) (6 * j + 1) dL_law_399 (xa_pa rfl rfl) (by omega) hL ?_
  refine xa_aload_n (pc := 400) dL_law_400 rfl ?_
  refine xa_iload_n (pc := 401) dL_law_401 rfl ?_
  refine xa_iconst (pc := 402) (v := 2) dL_law_402 (by decide) ?_
  refine xa_iadd (pc := 403) dL_law_403 ?_
  refine xl_sld (pc := 404) (6 * j + 2) dL_law_404 (xa_pa rfl rfl) (by omega) hL ?_
  refine xa_aload_n (pc := 405) dL_law_405 rfl ?_
  refine xa_iload_n (pc := 406) dL_law_406 rfl ?_
  refine xa_iconst (pc := 407) (v := 3) dL_law_407 (by decide) ?_
  refine xa_iadd (pc := 408) dL_law_408 ?_
  refine xl_sld (pc := 409) (6 * j + 3) dL_law_409 (xa_pa rfl rfl) (by omega) hL ?_
  refine xl_callM (pc := 410) hY.c_ok rfl rfl lcL_41 dL_law_410 (cm_ask E S hX.xm_wf (xs (6 * j + 1)) (xs (6 * j + 2)) (xs (6 * j + 3))) rfl rfl (by decide) (Nat.le_of_ble_eq_true rfl) (by decide) ?_
  refine xa_icmp_eq (pc := 413) 975 dL_law_413 (by decide) (fun _ => ?_) (fun hc => absurd rfl hc)
  exact K _ _ _ _ _ _ _ _ _ hY (fb_ask hF) (by omega) (by omega)
set_option maxHeartbeats 4000000 in
theorem lw_c6 (E : xa_EV) {nh ns kc ks b Ls j : Nat} {pw : Nat → Nat} {xs : Nat → Int32} {La : List Nat} {T S : xa_AH} {R : xa_AR} (hX : RX nh ns 0 pw La T R S) (hF : xm_fb S) (hj : 6 * j + 6 ≤ Ls) (hL : Ls ≤ 3072) (hkc : 34 ≤ kc) (hks : 866 ≤ ks) (K : lw_K E b Ls xs j kc ks) : xa_W E mL (zL b Ls xs) kc ks 418 [some (.ref 191), some (.ref (ci 0 129)), some (.ref 130), some (.int (nI (6 * j)))] [] (La ++ xm_L) (jT T S) (jR R) := by
  refine xa_aload_n (pc := 418) dL_law_418 rfl ?_
  refine xa_aload_n (pc := 419) dL_law_419 rfl ?_
  refine xa_iload_n (pc := 420) dL_law_420 rfl ?_
  refine xa_iconst (pc := 421) (v := 1) dL_law_421 (by decide) ?_
  refine xa_iadd (pc := 422) dL_law_422 ?_
  refine xl_sld (pc := 423) (6 * j + 1) dL_law_423 (xa_pa rfl rfl) (by omega) hL ?_
  refine xa_aload_n (pc := 424) dL_law_424 rfl ?_
  refine xa_iload_n (pc := 425) dL_law_425 rfl ?_
  refine xa_iconst (pc := 426) (v := 2) dL_law_426 (by decide) ?_
  refine xa_iadd (pc := 427) dL_law_427 ?_
  refine xl_sld (pc := 428) (6 * j + 2) dL_law_428 (xa_pa rfl rfl) (by omega) hL ?_
  refine xl_callC (pc := 429) hX.c_ok hX.c_m129 (kd_129 _) rfl lcL_42 dL_law_429 (cx_sleep E hX (xs (6 * j + 1)) (xs (6 * j + 2))) rfl rfl (by decide) (Nat.le_of_ble_eq_true rfl) (by decide) ?_
  rintro _ T2 R2 ⟨rfl, hY⟩
  refine xa_aload_n (pc := 432) dL_law_432 rfl ?_
  refine xa_aload_n (pc := 433) dL_law_433 rfl ?_
  refine xa_iload_n (pc := 434) dL_law_434 rfl ?_
  refine xa_iconst (pc := 435) (v := 1) dL_law_435 (by decide) ?_
  refine xa_iadd (pc := 436) dL_law_436 ?_
  refine xl_sld (pc := 437) (6 * j + 1) dL_law_437 (xa_pa rfl rfl) (by omega) hL ?_
  refine xa_aload_n (pc := 438) dL_law_438 rfl ?_
  refine xa_iload_n (pc := 439) dL_law_439 rfl ?_
  refine xa_iconst (pc := 440) (v := 2) dL_law_440 (by decide) ?_
  refine xa_iadd (pc := 441) dL_law_441 ?_
  refine xl_sld (pc := 442) (6 * j + 2) dL_law_442 (xa_pa rfl rfl) (by omega) hL ?_
  refine xl_callM (pc := 443) hY.c_ok rfl rfl lcL_45 dL_law_443 (cm_sleep E S hX.xm_wf (xs (6 * j + 1)) (xs (6 * j + 2))) rfl rfl (by decide) (Nat.le_of_ble_eq_true rfl) (by decide) ?_
  refine xa_icmp_eq (pc := 446) 975 dL_law_446 (by decide) (fun _ => ?_) (fun hc => absurd rfl hc)
  exact K _ _ _ _ _ _ _ _ _ hY (fb_sleep hF) (by omega) (by omega)
set_option maxHeartbeats 4000000 in
theorem lw_c7 (E : xa_EV) {nh ns kc ks b Ls j : Nat} {pw : Nat → Nat} {xs : Nat → Int32} {La : List Nat} {T S : xa_AH} {R : xa_AR} (hX : RX nh ns 0 pw La T R S) (hF : xm_fb S) (hj : 6 * j + 6 ≤ Ls) (hL : Ls ≤ 3072) (hkc : 34 ≤ kc) (hks : 866 ≤ ks) (K : lw_K E b Ls xs j kc ks) : xa_W E mL (zL b Ls xs) kc ks 451 [some (.ref 191), some (.ref (ci 0 129)), some (.ref 130), some (.int (nI (6 * j)))] [] (La ++ xm_L) (jT T S) (jR R) := by
  refine xa_aload_n (pc := 451) dL_law_451 rfl ?_
  refine xa_aload_n (pc := 452) dL_law_452 rfl ?_
  refine xa_iload_n (pc := 453) dL_law_453 rfl ?_
  refine xa_iconst (pc := 454) (v := 1) dL_law_454 (by decide) ?_
  refine xa_iadd (pc := 455) dL_law_455 ?_
  refine xl_sld (pc := 456) (6 * j + 1) dL_law_456 (xa_pa rfl rfl) (by omega) hL ?_
  refine xl_callC (pc := 457) hX.c_ok hX.c_m129 (kd_129 _) rfl lcL_46 dL_law_457 (cx_wake E hX (xs (6 * j + 1))) rfl rfl (by decide) (Nat.le_of_ble_eq_true rfl) (by decide) ?_
  rintro _ T2 R2 ⟨rfl, hY⟩
  refine xa_aload_n (pc := 460) dL_law_460 rfl ?_
  refine xa_aload_n (pc := 461) dL_law_461 rfl ?_
  refine xa_iload_n (pc := 462) dL_law_462 rfl ?_
  refine xa_iconst (pc := 463) (v := 1) dL_law_463 (by decide) ?_
  refine xa_iadd (pc := 464) dL_law_464 ?_
  refine xl_sld (pc := 465) (6 * j + 1) dL_law_465 (xa_pa rfl rfl) (by omega) hL ?_
  refine xl_callM (pc := 466) hY.c_ok rfl rfl lcL_49 dL_law_466 (cm_wake E S hX.xm_wf (xs (6 * j + 1))) rfl rfl (by decide) (Nat.le_of_ble_eq_true rfl) (by decide) ?_
  refine xa_icmp_eq (pc := 469) 975 dL_law_469 (by decide) (fun _ => ?_) (fun hc => absurd rfl hc)
  exact K _ _ _ _ _ _ _ _ _ hY (fb_wake hF) (by omega) (by omega)
set_option maxHeartbeats 4000000 in
theorem lw_c8 (E : xa_EV) {nh ns kc ks b Ls j : Nat} {pw : Nat → Nat} {xs : Nat → Int32} {La : List Nat} {T S : xa_AH} {R : xa_AR} (hX : RX nh ns 0 pw La T R S) (hF : xm_fb S) (hj : 6 * j + 6 ≤ Ls) (hL : Ls ≤ 3072) (hkc : 34 ≤ kc) (hks : 866 ≤ ks) (K : lw_K E b Ls xs j kc ks) : xa_W E mL (zL b Ls xs) kc ks 474 [some (.ref 191), some (.ref (ci 0 129)), some (.ref 130), some (.int (nI (6 * j)))] [] (La ++ xm_L) (jT T S) (jR R) := by
  refine xa_aload_n (pc := 474) dL_law_474 rfl ?_
  refine xa_aload_n (pc := 475) dL_law_475 rfl ?_
  refine xa_iload_n (pc := 476) dL_law_476 rfl ?_
  refine xa_iconst (pc := 477) (v := 1) dL_law_477 (by decide) ?_
  refine xa_iadd (pc := 478) dL_law_478 ?_
  refine xl_sld (pc := 479) (6 * j + 1) dL_law_479 (xa_pa rfl rfl) (by omega) hL ?_
  refine xl_callC (pc := 480) hX.c_ok hX.c_m129 (kd_129 _) rfl lcL_50 dL_law_480 (cx_fall E hX (xs (6 * j + 1))) rfl rfl (by decide) (Nat.le_of_ble_eq_true rfl) (by decide) ?_
  rintro _ T2 R2 ⟨rfl, hY⟩
  refine xa_aload_n (pc := 483) dL_law_483 rfl ?_
  refine xa_aload_n (pc := 484) dL_law_484 rfl ?_
  refine xa_iload_n (pc := 485) dL_law_485 rfl ?_
  refine xa_iconst (pc := 486) (v := 1) dL_law_486 (by decide) ?_
  refine xa_iadd (pc := 487) dL_law_487 ?_
  refine xl_sld (pc := 488) (6 * j + 1) dL_law_488 (xa_pa rfl rfl) (by omega) hL ?_
  refine xl_callM (pc := 489) hY.c_ok rfl rfl lcL_53 dL_law_489 (cm_fall E S hX.xm_wf hX.nm (xs (6 * j + 1))) rfl rfl (by decide) (Nat.le_of_ble_eq_true rfl) (by decide) ?_
  refine xa_icmp_eq (pc := 492) 975 dL_law_492 (by decide) (fun _ => ?_) (fun hc => absurd rfl hc)
  exact K _ _ _ _ _ _ _ _ _ hY (fb_fall hF) (by omega) (by omega)
set_option maxHeartbeats 4000000 in
theorem lw_c9 (E : xa_EV) {nh ns kc ks b Ls j : Nat} {pw : Nat → Nat} {xs : Nat → Int32} {La : List Nat} {T S : xa_AH} {R : xa_AR} (hX : RX nh ns 0 pw La T R S) (hF : xm_fb S) (hj : 6 * j + 6 ≤ Ls) (hL : Ls ≤ 3072) (hkc : 34 ≤ kc) (hks : 866 ≤ ks) (K : lw_K E b Ls xs j kc ks) : xa_W E mL (zL b Ls xs) kc ks 497 [some (.ref 191), some (.ref (ci 0 129)), some (.ref 130), some (.int (nI (6 * j)))] [] (La ++ xm_L) (jT T S) (jR R) := by
  refine xa_aload_n (pc := 497) dL_law_497 rfl ?_
  refine xa_aload_n (pc := 498) dL_law_498 rfl ?_
  refine xa_iload_n (pc := 499) dL_law_499 rfl ?_
  refine xa_iconst (pc := 500) (v := 1) dL_law_500 (by decide) ?_
  refine xa_iadd (pc := 501) dL_law_501 ?_
  refine xl_sld (pc := 502) (6 * j + 1) dL_law_502 (xa_pa rfl rfl) (by omega) hL ?_
  refine xl_callC (pc := 503) hX.c_ok hX.c_m129 (kd_129 _) rfl lcL_54 dL_law_503 (cx_leave E hX (xs (6 * j + 1))) rfl rfl (by decide) (Nat.le_of_ble_eq_true rfl) (by decide) ?_
  rintro _ T2 R2 ⟨rfl, hY⟩
  refine xa_aload_n (pc := 506) dL_law_506 rfl ?_
  refine xa_aload_n (pc := 507) dL_law_507 rfl ?_
  refine xa_iload_n (pc := 508) dL_law_508 rfl ?_
  refine xa_iconst (pc := 509) (v := 1) dL_law_509 (by decide) ?_
  refine xa_iadd (pc := 510) dL_law_510 ?_
  refine xl_sld (pc := 511) (6 * j + 1) dL_law_511 (xa_pa rfl rfl) (by omega) hL ?_
  refine xl_callM (pc := 512) hY.c_ok rfl rfl lcL_57 dL_law_512 (cm_leave E S hX.xm_wf hX.nm (xs (6 * j + 1))) rfl rfl (by decide) (Nat.le_of_ble_eq_true rfl) (by decide) ?_
  refine xa_icmp_eq (pc := 515) 975 dL_law_515 (by decide) (fun _ => ?_) (fun hc => absurd rfl hc)
  exact K _ _ _ _ _ _ _ _ _ hY (fb_leave hF) (by omega) (by omega)
set_option maxHeartbeats 4000000 in
theorem lw_c10 (E : xa_EV) {nh ns kc ks b Ls j : Nat} {pw : Nat → Nat} {xs : Nat → Int32} {La : List Nat} {T S : xa_AH} {R : xa_AR} (hX : RX nh ns 0 pw La T R S) (hF : xm_fb S) (hj : 6 * j + 6 ≤ Ls) (hL : Ls ≤ 3072) (hkc : 34 ≤ kc) (hks : 866 ≤ ks) (K : lw_K E b Ls xs j kc ks) : xa_W E mL (zL b Ls xs) kc ks 520 [some (.ref 191), some (.ref (ci 0 129)), some (.ref 130), some (.int (nI (6 * j)))] [] (La ++ xm_L) (jT T S) (jR R) := by
  refine xa_aload_n (pc := 520) dL_law_520 rfl ?_
  refine xa_aload_n (pc := 521) dL_law_521 rfl ?_
  refine xa_iload_n (pc := 522) dL_law_522 rfl ?_
  refine xa_iconst (pc := 523) (v := 1) dL_law_523 (by decide) ?_
  refine xa_iadd (pc := 524) dL_law_524 ?_
  refine xl_sld (pc := 525) (6 * j + 1) dL_law_525 (xa_pa rfl rfl) (by omega) hL ?_
  refine xa_aload_n (pc := 526) dL_law_526 rfl ?_
  refine xa_iload_n (pc := 527) dL_law_527 rfl ?_
  refine xa_iconst (pc := 528) (v := 2) dL_law_528 (by decide) ?_
  refine xa_iadd (pc := 529) dL_law_529 ?_
  refine xl_sld (pc := 530) (6 * j + 2) dL_law_530 (xa_pa rfl rfl) (by omega) hL ?_
  refine xa_if_eq (pc := 531) 538 dL_law_531 (by decide) (fun hb => ?_) (fun hb => ?_)
  · refine xa_iconst (pc := 538) (v := 0) dL_law_538 (by decide) ?_
    refine xl_callC (pc := 539) hX.c_ok hX.c_m129 (kd_129 _) rfl lcL_58 dL_law_539 (cx_keeper E hX (xs (6 * j + 1)) false) rfl rfl (by decide) (Nat.le_of_ble_eq_true rfl) (by decide) ?_
    rintro _ T2 R2 ⟨rfl, hY⟩
    refine xa_aload_n (pc := 542) dL_law_542 rfl ?_
    refine xa_aload_n (pc := 543) dL_law_543 rfl ?_
    refine xa_iload_n (pc := 544) dL_law_544 rfl ?_
    refine xa_iconst (pc := 545) (v := 1) dL_law_545 (by decide) ?_
    refine xa_iadd (pc := 546) dL_law_546 ?_
    refine xl_sld (pc := 547) (6 * j + 1) dL_law_547 (xa_pa rfl rfl) (by omega) hL ?_
    refine xa_aload_n (pc := 548) dL_law_548 rfl ?_
    refine xa_iload_n (pc := 549) dL_law_549 rfl ?_
    refine xa_iconst (pc := 550) (v := 2) dL_law_550 (by decide) ?_
    refine xa_iadd (pc := 551) dL_law_551 ?_
    refine xl_sld (pc := 552) (6 * j + 2) dL_law_552 (xa_pa rfl rfl) (by omega) hL ?_
    refine xa_if_eq (pc := 553) 560 dL_law_553 (by decide) (fun _ => ?_) (fun hc => absurd hb hc)
    refine xa_iconst (pc := 560) (v := 0) dL_law_560 (by decide) ?_
    refine xl_callM (pc := 561) hY.c_ok rfl rfl lcL_62 dL_law_561 (cm_keeper E S hX.xm_wf (xs (6 * j + 1)) false) rfl rfl (by decide) (Nat.le_of_ble_eq_true rfl) (by decide) ?_
    refine xa_icmp_eq (pc := 564) 975 dL_law_564 (by decide) (fun _ => ?_) (fun hc => absurd rfl hc)
    exact K _ _ _ _ _ _ _ _ _ hY (fb_keeper hF) (by omega) (by omega)
  · refine xa_iconst (pc := 534) (v := 1) dL_law_534 (by decide) ?_
    refine xa_goto (pc := 535) (tgt := 539) dL_law_535 (by decide) ?_
    refine xl_callC (pc := 539) hX.c_ok hX.c_m129 (kd_129 _) rfl lcL_58 dL_law_539 (cx_keeper E hX (xs (6 * j + 1)) true) rfl rfl (by decide) (Nat.le_of_ble_eq_true rfl) (by decide) ?_
    rintro _ T2 R2 ⟨rfl, hY⟩
    refine xa_aload_n (pc := 542) dL_law_542 rfl ?_
    refine xa_aload_n (pc := 543) dL_law_543 rfl ?_
    refine xa_iload_n (pc := 544) dL_law_544 rfl ?_
    refine xa_iconst (pc := 545) (v := 1) dL_law_545 (by decide) ?_
    refine xa_iadd (pc := 546) dL_law_546 ?_
    refine xl_sld (pc := 547) (6 * j + 1) dL_law_547 (xa_pa rfl rfl) (by omega) hL ?_
    refine xa_aload_n (pc := 548) dL_law_548 rfl ?_
    refine xa_iload_n (pc := 549) dL_law_549 rfl ?_
    refine xa_iconst (pc := 550) (v := 2) dL_law_550 (by decide) ?_
    refine xa_iadd (pc := 551) dL_law_551 ?_
    refine xl_sld (pc := 552) (6 * j + 2) dL_law_552 (xa_pa rfl rfl) (by omega) hL ?_
    refine xa_if_eq (pc := 553) 560 dL_law_553 (by decide) (fun hc => absurd hc hb) (fun _ => ?_)
    refine xa_iconst (pc := 556) (v := 1) dL_law_556 (by decide) ?_
    refine xa_goto (pc := 557) (tgt := 561) dL_law_557 (by decide) ?_
    refine xl_callM (pc := 561) hY.c_ok rfl rfl lcL_62 dL_law_561 (cm_keeper E S hX.xm_wf (xs (6 * j + 1)) true) rfl rfl (by decide) (Nat.le_of_ble_eq_true rfl) (by decide) ?_
    refine xa_icmp_eq (pc := 564) 975 dL_law_564 (by decide) (fun _ => ?_) (fun hc => absurd rfl hc)
    exact K _ _ _ _ _ _ _ _ _ hY (fb_keeper hF) (by omega) (by omega)
set_option maxHeartbeats 4000000 in
theorem lw_c11 (E : xa_EV) {nh ns kc ks b Ls j : Nat} {pw : Nat → Nat} {xs : Nat → Int32} {La : List Nat} {T S : xa_AH} {R : xa_AR} (hX : RX nh ns 0 pw La T R S) (hF : xm_fb S) (hj : 6 * j + 6 ≤ Ls) (hL : Ls ≤ 3072) (hkc : 34 ≤ kc) (hks : 866 ≤ ks) (K : lw_K E b Ls xs j kc ks) : xa_W E mL (zL b Ls xs) kc ks 569 [some (.ref 191), some (.ref (ci 0 129)), some (.ref 130), some (.int (nI (6 * j)))] [] (La ++ xm_L) (jT T S) (jR R) := by
  refine xa_aload_n (pc := 569) dL_law_569 rfl ?_
  refine xa_aload_n (pc := 570) dL_law_570 rfl ?_
  refine xa_iload_n (pc := 571) dL_law_571 rfl ?_
  refine xa_iconst (pc := 572) (v := 1) dL_law_572 (by decide) ?_
  refine xa_iadd (pc := 573) dL_law_573 ?_
  refine xl_sld (pc := 574) (6 * j + 1) dL_law_574 (xa_pa rfl rfl) (by omega) hL ?_
  refine xa_aload_n (pc := 575) dL_law_575 rfl ?_
  refine xa_iload_n (pc := 576) dL_law_576 rfl ?_
  refine xa_iconst (pc := 577) (v := 2) dL_law_577 (by decide) ?_
  refine xa_iadd (pc := 578) dL_law_578 ?_
  refine xl_sld (pc := 579) (6 * j + 2) dL_law_579 (xa_pa rfl rfl) (by omega) hL ?_
  refine xa_aload_n (pc := 580) dL_law_580 rfl ?_
  refine xa_iload_n (pc := 581) dL_law_581 rfl ?_
  refine xa_iconst (pc := 582) (v := 3) dL_law_582 (by decide) ?_
  refine xa_iadd (pc := 583) dL_law_583 ?_
  refine xl_sld (pc := 584) (6 * j + 3) dL_law_584 (xa_pa rfl rfl) (by omega) hL ?_
  refine xl_callA (pc := 585) hX.c_ok PXA_o hX.c_m129 (kd_129 _) rfl lcL_63 dL_law_585 (cx_bridge E hX (xs (6 * j + 1)) (xs (6 * j + 2)) (xs (6 * j + 3))) rfl rfl (by decide) (Nat.le_of_ble_eq_true rfl) (Nat.le_trans (by decide) hkc) (Nat.le_trans (by decide) hks) (fun a ha => by rw [show a = 191 from ha]; decide) (fun a ha => by simp at ha) (fun a ha => by simp at ha; rcases ha with e | e | e <;> rw [e] <;> first | exact Or.inl hX.c_m129 | exact Or.inr (by decide)) ?_
  rintro _ L2 T2 R2 ⟨rfl, hY⟩
  refine xa_aload_n (pc := 588) dL_law_588 rfl ?_
  refine xa_aload_n (pc := 589) dL_law_589 rfl ?_
  refine xa_iload_n (pc := 590) dL_law_590 rfl ?_
  refine xa_iconst (pc := 591) (v := 1) dL_law_591 (by decide) ?_
  refine xa_iadd (pc := 592) dL_law_592 ?_
  refine xl_sld (pc := 593) (6 * j + 1) dL_law_593 (xa_pa rfl rfl) (by omega) hL ?_
  refine xa_aload_n (pc := 594) dL_law_594 rfl ?_
  refine xa_iload_n (pc := 595) dL_law_595 rfl ?_
  refine xa_iconst (pc := 596) (v := 2) dL_law_596 (by decide) ?_
  refine xa_iadd (pc := 597) dL_law_597 ?_
  refine xl_sld (pc := 598) (6 * j + 2) dL_law_598 (xa_pa rfl rfl) (by omega) hL ?_
  refine xa_aload_n (pc := 599) dL_law_599 rfl ?_
  refine xa_iload_n (pc := 600) dL_law_600 rfl ?_
  refine xa_iconst (pc := 601) (v := 3) dL_law_601 (by decide) ?_
  refine xa_iadd (pc := 602) dL_law_602 ?_
  refine xl_sld (pc := 603) (6 * j + 3) dL_law_603 (xa_pa rfl rfl) (by omega) hL ?_
  refine xl_callM (pc := 604) hY.c_ok rfl rfl lcL_66 dL_law_604 (cm_bridge E S hX.xm_wf (xs (6 * j + 1)) (xs (6 * j + 2)) (xs (6 * j + 3))) rfl rfl (by decide) (Nat.le_of_ble_eq_true rfl) (by decide) ?_
  refine xa_icmp_eq (pc := 607) 975 dL_law_607 (by decide) (fun _ => ?_) (fun hc => absurd rfl hc)
  exact K _ _ _ _ _ _ _ _ _ hY (fb_bridge hF) (Nat.sub_le_sub_left (show mX7_bridge.2.2.2.2.cells ≤ 34 by decide) kc) (Nat.sub_le_sub_left (show mX7_bridge.2.2.2.2.slots ≤ 866 by decide) ks)
set_option maxHeartbeats 4000000 in
theorem lw_c12 (E : xa_EV) {nh ns kc ks b Ls j : Nat} {pw : Nat → Nat} {xs : Nat → Int32} {La : List Nat} {T S : xa_AH} {R : xa_AR} (hX : RX nh ns 0 pw La T R S) (hF : xm_fb S) (hj : 6 * j + 6 ≤ Ls) (hL : Ls ≤ 3072) (hkc : 34 ≤ kc) (hks : 866 ≤ ks) (K : lw_K E b Ls xs j kc ks) : xa_W E mL (zL b Ls xs) kc ks 612 [some (.ref 191), some (.ref (ci 0 129)), some (.ref 130), some (.int (nI (6 * j)))] [] (La ++ xm_L) (jT T S) (jR R) := by
  refine xa_aload_n (pc := 612) dL_law_612 rfl ?_
  refine xa_aload_n (pc := 613) dL_law_613 rfl ?_
  refine xa_iload_n (pc := 614) dL_law_614 rfl ?_
  refine xa_iconst (pc := 615) (v := 1) dL_law_615 (by decide) ?_
  refine xa_iadd (pc := 616) dL_law_616 ?_
  refine xl_sld (pc := 617) (6 * j + 1) dL_law_617 (xa_pa rfl rfl) (by omega) hL ?_
  refine xa_aload_n (pc := 618) dL_law_618 rfl ?_
  refine xa_iload_n (pc := 619) dL_law_619 rfl ?_
  refine xa_iconst (pc := 620) (v := 2) dL_law_620 (by decide) ?_
  refine xa_iadd (pc := 621) dL_law_621 ?_
  refine xl_sld (pc := 622) (6 * j + 2) dL_law_622 (xa_pa rfl rfl) (by omega) hL ?_
  refine xl_callC (pc := 623) hX.c_ok hX.c_m129 (kd_129 _) rfl lcL_67 dL_law_623 (cx_lose E hX (xs (6 * j + 1)) (xs (6 * j + 2))) rfl rfl (by decide) (Nat.le_of_ble_eq_true rfl) (by decide) ?_
  rintro _ T2 R2 ⟨rfl, hY⟩
  refine xa_aload_n (pc := 626) dL_law_626 rfl ?_
  refine xa_aload_n (pc := 627) dL_law_627 rfl ?_
  refine xa_iload_n (pc := 628) dL_law_628 rfl ?_
  refine xa_iconst (pc := 629) (v := 1) dL_law_629 (by decide) ?_
  refine xa_iadd (pc := 630) dL_law_630 ?_
  refine xl_sld (pc := 631) (6 * j + 1) dL_law_631 (xa_pa rfl rfl) (by omega) hL ?_
  refine xa_aload_n (pc := 632) dL_law_632 rfl ?_
  refine xa_iload_n (pc := 633) dL_law_633 rfl ?_
  refine xa_iconst (pc := 634) (v := 2) dL_law_634 (by decide) ?_
  refine xa_iadd (pc := 635) dL_law_635 ?_
  refine xl_sld (pc := 636) (6 * j + 2) dL_law_636 (xa_pa rfl rfl) (by omega) hL ?_
  refine xl_callM (pc := 637) hY.c_ok rfl rfl lcL_70 dL_law_637 (cm_lose E S hX.xm_wf (xs (6 * j + 1)) (xs (6 * j + 2))) rfl rfl (by decide) (Nat.le_of_ble_eq_true rfl) (by decide) ?_
  refine xa_icmp_eq (pc := 640) 975 dL_law_640 (by decide) (fun _ => ?_) (fun hc => absurd rfl hc)
  exact K _ _ _ _ _ _ _ _ _ hY (fb_lose hF) (by omega) (by omega)
set_option maxHeartbeats 4000000 in
theorem lw_c13 (E : xa_EV) {nh ns kc ks b Ls j : Nat} {pw : Nat → Nat} {xs : Nat → Int32} {La : List Nat} {T S : xa_AH} {R : xa_AR} (hX : RX nh ns 0 pw La T R S) (hF : xm_fb S) (hj : 6 * j + 6 ≤ Ls) (hL : Ls ≤ 3072) (hkc : 34 ≤ kc) (hks : 866 ≤ ks) (K : lw_K E b Ls xs j kc ks) : xa_W E mL (zL b Ls xs) kc ks 645 [some (.ref 191), some (.ref (ci 0 129)), some (.ref 130), some (.int (nI (6 * j)))] [] (La ++ xm_L) (jT T S) (jR R) := by
  refine xa_aload_n (pc := 645) dL_law_645 rfl ?_
  refine xa_aload_n (pc := 646) dL_law_646 rfl ?_
  refine xa_iload_n (pc := 647) dL_law_647 rfl ?_
  refine xa_iconst (pc := 648) (v := 1) dL_law_648 (by decide) ?_
  refine xa_iadd (pc := 649) dL_law_649 ?_
  refine xl_sld (pc := 650) (6 * j + 1) dL_law_650 (xa_pa rfl rfl) (by omega) hL ?_
  refine xa_aload_n (pc := 651) dL_law_651 rfl ?_
  refine xa_iload_n (pc := 652) dL_law_652 rfl ?_
  refine xa_iconst (pc := 653) (v := 2) dL_law_653 (by decide) ?_
  refine xa_iadd (pc := 654) dL_law_654 ?_
  refine xl_sld (pc := 655) (6 * j + 2) dL_law_655 (xa_pa rfl rfl) (by omega) hL ?_
  refine xl_callC (pc := 656) hX.c_ok hX.c_m129 (kd_129 _) rfl lcL_71 dL_law_656 (cx_deaf E hX (xs (6 * j + 1)) (xs (6 * j + 2))) rfl rfl (by decide) (Nat.le_of_ble_eq_true rfl) (by decide) ?_
  rintro _ T2 R2 ⟨rfl, hY⟩
  refine xa_aload_n (pc := 659) dL_law_659 rfl ?_
  refine xa_aload_n (pc := 660) dL_law_660 rfl ?_
  refine xa_iload_n (pc := 661) dL_law_661 rfl ?_
  refine xa_iconst (pc := 662) (v := 1) dL_law_662 (by decide) ?_
  refine xa_iadd (pc := 663) dL_law_663 ?_
  refine xl_sld (pc := 664) (6 * j + 1) dL_law_664 (xa_pa rfl rfl) (by omega) hL ?_
  refine xa_aload_n (pc := 665) dL_law_665 rfl ?_
  refine xa_iload_n (pc := 666) dL_law_666 rfl ?_
  refine xa_iconst (pc := 667) (v := 2) dL_law_667 (by decide) ?_
  refine xa_iadd (pc := 668) dL_law_668 ?_
  refine xl_sld (pc := 669) (6 * j + 2) dL_law_669 (xa_pa rfl rfl) (by omega) hL ?_
  refine xl_callM (pc := 670) hY.c_ok rfl rfl lcL_74 dL_law_670 (cm_deaf E S hX.xm_wf (xs (6 * j + 1)) (xs (6 * j + 2))) rfl rfl (by decide) (Nat.le_of_ble_eq_true rfl) (by decide) ?_
  refine xa_icmp_eq (pc := 673) 975 dL_law_673 (by decide) (fun _ => ?_) (fun hc => absurd rfl hc)
  exact K _ _ _ _ _ _ _ _ _ hY (fb_deaf hF) (by omega) (by omega)
set_option maxHeartbeats 4000000 in
theorem lw_c14 (E : xa_EV) {nh ns kc ks b Ls j : Nat} {pw : Nat → Nat} {xs : Nat → Int32} {La : List Nat} {T S : xa_AH} {R : xa_AR} (hX : RX nh ns 0 pw La T R S) (hF : xm_fb S) (hj : 6 * j + 6 ≤ Ls) (hL : Ls ≤ 3072) (hkc : 34 ≤ kc) (hks : 866 ≤ ks) (K : lw_K E b Ls xs j kc ks) : xa_W E mL (zL b Ls xs) kc ks 678 [some (.ref 191), some (.ref (ci 0 129)), some (.ref 130), some (.int (nI (6 * j)))] [] (La ++ xm_L) (jT T S) (jR R) := by
  refine xa_aload_n (pc := 678) dL_law_678 rfl ?_
  refine xa_aload_n (pc := 679) dL_law_679 rfl ?_
  refine xa_iload_n (pc := 680) dL_law_680 rfl ?_
  refine xa_iconst (pc := 681) (v := 1) dL_law_681 (by decide) ?_
  refine xa_iadd (pc := 682) dL_law_682 ?_
  refine xl_sld (pc := 683) (6 * j + 1) dL_law_683 (xa_pa rfl rfl) (by omega) hL ?_
  refine xa_aload_n (pc := 684) dL_law_684 rfl ?_
  refine xa_iload_n (pc := 685) dL_law_685 rfl ?_
  refine xa_iconst (pc := 686) (v := 2) dL_law_686 (by decide) ?_
  refine xa_iadd (pc := 687) dL_law_687 ?_
  refine xl_sld (pc := 688) (6 * j + 2) dL_law_688 (xa_pa rfl rfl) (by omega) hL ?_
  refine xl_callC (pc := 689) hX.c_ok hX.c_m129 (kd_129 _) rfl lcL_75 dL_law_689 (cx_join E hX (xs (6 * j + 1)) (xs (6 * j + 2))) rfl rfl (by decide) (Nat.le_of_ble_eq_true rfl) (by decide) ?_
  rintro _ T2 R2 ⟨rfl, hY⟩
  refine xa_aload_n (pc := 692) dL_law_692 rfl ?_
  refine xa_aload_n (pc := 693) dL_law_693 rfl ?_
  refine xa_iload_n (pc := 694) dL_law_694 rfl ?_
  refine xa_iconst (pc := 695) (v := 1) dL_law_695 (by decide) ?_
  refine xa_iadd (pc := 696) dL_law_696 ?_
  refine xl_sld (pc := 697) (6 * j + 1) dL_law_697 (xa_pa rfl rfl) (by omega) hL ?_
  refine xa_aload_n (pc := 698) dL_law_698 rfl ?_
  refine xa_iload_n (pc := 699) dL_law_699 rfl ?_
  refine xa_iconst (pc := 700) (v := 2) dL_law_700 (by decide) ?_
  refine xa_iadd (pc := 701) dL_law_701 ?_
  refine xl_sld (pc := 702) (6 * j + 2) dL_law_702 (xa_pa rfl rfl) (by omega) hL ?_
  refine xl_callM (pc := 703) hY.c_ok rfl rfl lcL_78 dL_law_703 (cm_join E S hX.xm_wf hX.nm (xs (6 * j + 1)) (xs (6 * j + 2))) rfl rfl (by decide) (Nat.le_of_ble_eq_true rfl) (by decide) ?_
  refine xa_icmp_eq (pc := 706) 975 dL_law_706 (by decide) (fun _ => ?_) (fun hc => absurd rfl hc)
  exact K _ _ _ _ _ _ _ _ _ hY (fb_join hF) (by omega) (by omega)
set_option maxHeartbeats 4000000 in
theorem lw_c15 (E : xa_EV) {nh ns kc ks b Ls j : Nat} {pw : Nat → Nat} {xs : Nat → Int32} {La : List Nat} {T S : xa_AH} {R : xa_AR} (hX : RX nh ns 0 pw La T R S) (hF : xm_fb S) (hj : 6 * j + 6 ≤ Ls) (hL : Ls ≤ 3072) (hkc : 34 ≤ kc) (hks : 866 ≤ ks) (K : lw_K E b Ls xs j kc ks) : xa_W E mL (zL b Ls xs) kc ks 711 [some (.ref 191), some (.ref (ci 0 129)), some (.ref 130), some (.int (nI (6 * j)))] [] (La ++ xm_L) (jT T S) (jR R) := by
  refine xa_aload_n (pc := 711) dL_law_711 rfl ?_
  refine xa_aload_n (pc := 712) dL_law_712 rfl ?_
  refine xa_iload_n (pc := 713) dL_law_713 rfl ?_
  refine xa_iconst (pc := 714) (v := 1) dL_law_714 (by decide) ?_
  refine xa_iadd (pc := 715) dL_law_715 ?_
  refine xl_sld (pc := 716) (6 * j + 1) dL_law_716 (xa_pa rfl rfl) (by omega) hL ?_
  refine xl_callC (pc := 717) hX.c_ok hX.c_m129 (kd_129 _) rfl lcL_79 dL_law_717 (cx_tick E hX (xs (6 * j + 1))) rfl rfl (by decide) (Nat.le_of_ble_eq_true rfl) (by decide) ?_
  rintro _ T2 R2 ⟨rfl, pw2, hY⟩
  refine xa_aload_n (pc := 720) dL_law_720 rfl ?_
  refine xa_aload_n (pc := 721) dL_law_721 rfl ?_
  refine xa_iload_n (pc := 722) dL_law_722 rfl ?_
  refine xa_iconst (pc := 723) (v := 1) dL_law_723 (by decide) ?_
  refine xa_iadd (pc := 724) dL_law_724 ?_
  refine xl_sld (pc := 725) (6 * j + 1) dL_law_725 (xa_pa rfl rfl) (by omega) hL ?_
  refine xl_callM (pc := 726) hY.c_ok rfl rfl lcL_83 dL_law_726 (cm_tick E S (hX.wi hF) (xs (6 * j + 1))) rfl rfl (by decide) (Nat.le_of_ble_eq_true rfl) (by decide) ?_
  refine xa_icmp_eq (pc := 729) 975 dL_law_729 (by decide) (fun _ => ?_) (fun hc => absurd rfl hc)
  exact K _ _ _ _ _ _ _ _ _ hY (fb_tick (hX.wi hF)) (by omega) (by omega)
set_option maxHeartbeats 4000000 in
theorem lw_c16 (E : xa_EV) {nh ns kc ks b Ls j : Nat} {pw : Nat → Nat} {xs : Nat → Int32} {La : List Nat} {T S : xa_AH} {R : xa_AR} (hX : RX nh ns 0 pw La T R S) (hF : xm_fb S) (hj : 6 * j + 6 ≤ Ls) (hL : Ls ≤ 3072) (hkc : 34 ≤ kc) (hks : 866 ≤ ks) (K : lw_K E b Ls xs j kc ks) : xa_W E mL (zL b Ls xs) kc ks 734 [some (.ref 191), some (.ref (ci 0 129)), some (.ref 130), some (.int (nI (6 * j)))] [] (La ++ xm_L) (jT T S) (jR R) := by
  refine xa_aload_n (pc := 734) dL_law_734 rfl ?_
  refine xa_aload_n (pc := 735) dL_law_735 rfl ?_
  refine xa_iload_n (pc := 736) dL_law_736 rfl ?_
  refine xa_iconst (pc := 737) (v := 1) dL_law_737 (by decide) ?_
  refine xa_iadd (pc := 738) dL_law_738 ?_
  refine xl_sld (pc := 739) (6 * j + 1) dL_law_739 (xa_pa rfl rfl) (by omega) hL ?_
  refine xa_aload_n (pc := 740) dL_law_740 rfl ?_
  refine xa_iload_n (pc := 741) dL_law_741 rfl ?_
  refine xa_iconst (pc := 742) (v := 2) dL_law_742 (by decide) ?_
  refine xa_iadd (pc := 743) dL_law_743 ?_
  refine xl_sld (pc := 744) (6 * j + 2) dL_law_744 (xa_pa rfl rfl) (by omega) hL ?_
  refine xa_aload_n (pc := 745) dL_law_745 rfl ?_
  refine xa_iload_n (pc := 746) dL_law_746 rfl ?_
  refine xa_iconst (pc := 747) (v := 3) dL_law_747 (by decide) ?_
  refine xa_iadd (pc := 748) dL_law_748 ?_
  refine xl_sld (pc := 749) (6 * j + 3) dL_law_749 (xa_pa rfl rfl) (by omega) hL ?_
  refine xa_aload_n (pc := 750) dL_law_750 rfl ?_
  refine xa_iload_n (pc := 751) dL_law_751 rfl ?_
  refine xa_iconst (pc := 752) (v := 4) dL_law_752 (by decide) ?_
  refine xa_iadd (pc := 753) dL_law_753 ?_
  refine xl_sld (pc := 754) (6 * j + 4) dL_law_754 (xa_pa rfl rfl) (by omega) hL ?_
  refine xl_callC (pc := 755) hX.c_ok hX.c_m129 (kd_129 _) rfl lcL_84 dL_law_755 (cx_find E hX (xs (6 * j + 1)) (xs (6 * j + 2)) (xs (6 * j + 3)) (xs (6 * j + 4))) rfl rfl (by decide) (Nat.le_of_ble_eq_true rfl) (by decide) ?_
  rintro _ _ _ ⟨rfl, rfl, rfl⟩
  have hY := hX
  refine xa_aload_n (pc := 758) dL_law_758 rfl ?_
  refine xa_aload_n (pc := 759) dL_law_759 rfl ?_
  refine xa_iload_n (pc := 760) dL_law_760 rfl ?_
  refine xa_iconst (pc := 761) (v := 1) dL_law_761 (by decide) ?_
  refine xa_iadd (pc := 762) dL_law_762 ?_
  refine xl_sld (pc := 763) (6 * j + 1) dL_law_763 (xa_pa rfl rfl) (by omega) hL ?_
  refine xa_aload_n (pc := 764) dL_law_764 rfl ?_
  refine xa_iload_n (pc := 765) dL_law_765 rfl ?_
  refine xa_iconst (pc := 766) (v := 2) dL_law_766 (by decide) ?_
  refine xa_iadd (pc := 767) dL_law_767 ?_
  refine xl_sld (pc := 768) (6 * j + 2) dL_law_768 (xa_pa rfl rfl) (by omega) hL ?_
  refine xa_aload_n (pc := 769) dL_law_769 rfl ?_
  refine xa_iload_n (pc := 770) dL_law_770 rfl ?_
  refine xa_iconst (pc := 771) (v := 3) dL_law_771 (by decide) ?_
  refine xa_iadd (pc := 772) dL_law_772 ?_
  refine xl_sld (pc := 773) (6 * j + 3) dL_law_773 (xa_pa rfl rfl) (by omega) hL ?_
  refine xa_aload_n (pc := 774) dL_law_774 rfl ?_
  refine xa_iload_n (pc := 775) dL_law_775 rfl ?_
  refine xa_iconst (pc := 776) (v := 4) dL_law_776 (by decide) ?_
  refine xa_iadd (pc := 777) dL_law_777 ?_
  refine xl_sld (pc := 778) (6 * j + 4) dL_law_778 (xa_pa rfl rfl) (by omega) hL ?_
  refine xl_callM (pc := 779) hY.c_ok rfl rfl lcL_87 dL_law_779 (cm_find E S hX.xm_wf hX.hRn (xs (6 * j + 1)) (xs (6 * j + 2)) (xs (6 * j + 3)) (xs (6 * j + 4))) rfl rfl (by decide) (Nat.le_of_ble_eq_true rfl) (by decide) ?_
  refine xa_icmp_eq (pc := 782) 975 dL_law_782 (by decide) (fun _ => ?_) (fun hc => absurd rfl hc)
  exact K _ _ _ _ _ _ _ _ _ hY hF (by omega) (by omega)
set_option maxHeartbeats 4000000 in
theorem lw_c17 (E : xa_EV) {nh ns kc ks b Ls j : Nat} {pw : Nat → Nat} {xs : Nat → Int32} {La : List Nat} {T S : xa_AH} {R : xa_AR} (hX : RX nh ns 0 pw La T R S) (hF : xm_fb S) (hj : 6 * j + 6 ≤ Ls) (hL : Ls ≤ 3072) (hkc : 34 ≤ kc) (hks : 866 ≤ ks) (K : lw_K E b Ls xs j kc ks) : xa_W E mL (zL b Ls xs) kc ks 787 [some (.ref 191), some (.ref (ci 0 129)), some (.ref 130), some (.int (nI (6 * j)))] [] (La ++ xm_L) (jT T S) (jR R) := by
  refine xa_aload_n (pc := 787) dL_law_787 rfl ?_
  refine xa_aload_n (pc := 788) dL_law_788 rfl ?_
  refine xa_iload_n (pc := 789) dL_law_789 rfl ?_
  refine xa_iconst (pc := 790) (v := 1) dL_law_790 (by decide) ?_
  refine xa_iadd (pc := 791) dL_law_791 ?_
  refine xl_sld (pc := 792) (6 * j + 1) dL_law_792 (xa_pa rfl rfl) (by omega) hL ?_
  refine xa_aload_n (pc := 793) dL_law_793 rfl ?_
  refine xa_iload_n (pc := 794) dL_law_794 rfl ?_
  refine xa_iconst (pc := 795) (v := 2) dL_law_795 (by decide) ?_
  refine xa_iadd (pc := 796) dL_law_796 ?_
  refine xl_sld (pc := 797) (6 * j + 2) dL_law_797 (xa_pa rfl rfl) (by omega) hL ?_
  refine xa_aload_n (pc := 798) dL_law_798 rfl ?_
  refine xa_iload_n (pc := 799) dL_law_799 rfl ?_
  refine xa_iconst (pc := 800) (v := 3) dL_law_800 (by decide) ?_
  refine xa_iadd (pc := 801) dL_law_801 ?_
  refine xl_sld (pc := 802) (6 * j + 3) dL_law_802 (xa_pa rfl rfl) (by omega) hL ?_
  refine xl_callC (pc := 803) hX.c_ok hX.c_m129 (kd_129 _) rfl lcL_88 dL_law_803 (cx_record E hX (xs (6 * j + 1)) (xs (6 * j + 2)) (xs (6 * j + 3))) rfl rfl (by decide) (Nat.le_of_ble_eq_true rfl) (by decide) ?_
  rintro _ _ _ ⟨rfl, rfl, rfl⟩
  have hY := hX
  refine xa_aload_n (pc := 806) dL_law_806 rfl ?_
  refine xa_aload_n (pc := 807) dL_law_807 rfl ?_
  refine xa_iload_n (pc := 808) dL_law_808 rfl ?_
  refine xa_iconst (pc := 809) (v := 1) dL_law_809 (by decide) ?_
  refine xa_iadd (pc := 810) dL_law_810 ?_
  refine xl_sld (pc := 811) (6 * j + 1) dL_law_811 (xa_pa rfl rfl) (by omega) hL ?_
  refine xa_aload_n (pc := 812) dL_law_812 rfl ?_
  refine xa_iload_n (pc := 813) dL_law_813 rfl ?_
  refine xa_iconst (pc := 814) (v := 2) dL_law_814 (by decide) ?_
  refine xa_iadd (pc := 815) dL_law_815 ?_
  refine xl_sld (pc := 816) (6 * j + 2) dL_law_816 (xa_pa rfl rfl) (by omega) hL ?_
  refine xa_aload_n (pc := 817) dL_law_817 rfl ?_
  refine xa_iload_n (pc := 818) dL_law_818 rfl ?_
  refine xa_iconst (pc := 819) (v := 3) dL_law_819 (by decide) ?_
  refine xa_iadd (pc := 820) dL_law_820 ?_
  refine xl_sld (pc := 821) (6 * j + 3) dL_law_821 (xa_pa rfl rfl) (by omega) hL ?_
  refine xl_callM (pc := 822) hY.c_ok rfl rfl lcL_92 dL_law_822 (cm_record E S hX.xm_wf (xs (6 * j + 1)) (xs (6 * j + 2)) (xs (6 * j + 3))) rfl rfl (by decide) (Nat.le_of_ble_eq_true rfl) (by decide) ?_
  refine xa_icmp_eq (pc := 825) 975 dL_law_825 (by decide) (fun _ => ?_) (fun hc => absurd rfl hc)
  exact K _ _ _ _ _ _ _ _ _ hY hF (by omega) (by omega)
set_option maxHeartbeats 4000000 in
theorem lw_c18 (E : xa_EV) {nh ns kc ks b Ls j : Nat} {pw : Nat → Nat} {xs : Nat → Int32} {La : List Nat} {T S : xa_AH} {R : xa_AR} (hX : RX nh ns 0 pw La T R S) (hF : xm_fb S) (hj : 6 * j + 6 ≤ Ls) (hL : Ls ≤ 3072) (hkc : 34 ≤ kc) (hks : 866 ≤ ks) (K : lw_K E b Ls xs j kc ks) : xa_W E mL (zL b Ls xs) kc ks 830 [some (.ref 191), some (.ref (ci 0 129)), some (.ref 130), some (.int (nI (6 * j)))] [] (La ++ xm_L) (jT T S) (jR R) := by
  refine xa_aload_n (pc := 830) dL_law_830 rfl ?_
  refine xa_aload_n (pc := 831) dL_law_831 rfl ?_
  refine xa_iload_n (pc := 832) dL_law_832 rfl ?_
  refine xa_iconst (pc := 833) (v := 1) dL_law_833 (by decide) ?_
  refine xa_iadd (pc := 834) dL_law_834 ?_
  refine xl_sld (pc := 835) (6 * j + 1) dL_law_835 (xa_pa rfl rfl) (by omega) hL ?_
  refine xa_aload_n (pc := 836) dL_law_836 rfl ?_
  refine xa_iload_n (pc := 837) dL_law_837 rfl ?_
  refine xa_iconst (pc := 838) (v := 2) dL_law_838 (by decide) ?_
  refine xa_iadd (pc := 839) dL_law_839 ?_
  refine xl_sld (pc := 840) (6 * j + 2) dL_law_840 (xa_pa rfl rfl) (by omega) hL ?_
  refine xl_callC (pc := 841) hX.c_ok hX.c_m129 (kd_129 _) rfl lcL_93 dL_law_841 (cx_service E hX (xs (6 * j + 1)) (xs (6 * j + 2))) rfl rfl (by decide) (Nat.le_of_ble_eq_true rfl) (by decide) ?_
  rintro _ _ _ ⟨rfl, rfl, rfl⟩
  have hY := hX
  refine xa_aload_n (pc := 844) dL_law_844 rfl ?_
  refine xa_aload_n (pc := 845) dL_law_845 rfl ?_
  refine xa_iload_n (pc := 846) dL_law_846 rfl ?_
  refine xa_iconst (pc := 847) (v := 1) dL_law_847 (by decide) ?_
  refine xa_iadd (pc := 848) dL_law_848 ?_
  refine xl_sld (pc := 849) (6 * j + 1) dL_law_849 (xa_pa rfl rfl) (by omega) hL ?_
  refine xa_aload_n (pc := 850) dL_law_850 rfl ?_
  refine xa_iload_n (pc := 851) dL_law_851 rfl ?_
  refine xa_iconst (pc := 852) (v := 2) dL_law_852 (by decide) ?_
  refine xa_iadd (pc := 853) dL_law_853 ?_
  refine xl_sld (pc := 854) (6 * j + 2) dL_law_854 (xa_pa rfl rfl) (by omega) hL ?_
  refine xl_callM (pc := 855) hY.c_ok rfl rfl lcL_97 dL_law_855 (cm_service E S hX.xm_wf (xs (6 * j + 1)) (xs (6 * j + 2))) rfl rfl (by decide) (Nat.le_of_ble_eq_true rfl) (by decide) ?_
  refine xa_icmp_eq (pc := 858) 975 dL_law_858 (by decide) (fun _ => ?_) (fun hc => absurd rfl hc)
  exact K _ _ _ _ _ _ _ _ _ hY hF (by omega) (by omega)
set_option maxHeartbeats 4000000 in
theorem lw_c19 (E : xa_EV) {nh ns kc ks b Ls j : Nat} {pw : Nat → Nat} {xs : Nat → Int32} {La : List Nat} {T S : xa_AH} {R : xa_AR} (hX : RX nh ns 0 pw La T R S) (hF : xm_fb S) (hj : 6 * j + 6 ≤ Ls) (hL : Ls ≤ 3072) (hkc : 34 ≤ kc) (hks : 866 ≤ ks) (K : lw_K E b Ls xs j kc ks) : xa_W E mL (zL b Ls xs) kc ks 863 [some (.ref 191), some (.ref (ci 0 129)), some (.ref 130), some (.int (nI (6 * j)))] [] (La ++ xm_L) (jT T S) (jR R) := by
  refine xa_aload_n (pc := 863) dL_law_863 rfl ?_
  refine xa_aload_n (pc := 864) dL_law_864 rfl ?_
  refine xa_iload_n (pc := 865) dL_law_865 rfl ?_
  refine xa_iconst (pc := 866) (v := 1) dL_law_866 (by decide) ?_
  refine xa_iadd (pc := 867) dL_law_867 ?_
  refine xl_sld (pc := 868) (6 * j + 1) dL_law_868 (xa_pa rfl rfl) (by omega) hL ?_
  refine xa_aload_n (pc := 869) dL_law_869 rfl ?_
  refine xa_iload_n (pc := 870) dL_law_870 rfl ?_
  refine xa_iconst (pc := 871) (v := 2) dL_law_871 (by decide) ?_
  refine xa_iadd (pc := 872) dL_law_872 ?_
  refine xl_sld (pc := 873) (6 * j + 2) dL_law_873 (xa_pa rfl rfl) (by omega) hL ?_
  refine xl_callC (pc := 874) hX.c_ok hX.c_m129 (kd_129 _) rfl lcL_98 dL_law_874 (cx_look E hX (xs (6 * j + 1)) (xs (6 * j + 2))) rfl rfl (by decide) (Nat.le_of_ble_eq_true rfl) (by decide) ?_
  rintro _ _ _ ⟨rfl, rfl, rfl⟩
  have hY := hX
  refine xa_aload_n (pc := 877) dL_law_877 rfl ?_
  refine xa_aload_n (pc := 878) dL_law_878 rfl ?_
  refine xa_iload_n (pc := 879) dL_law_879 rfl ?_
  refine xa_iconst (pc := 880) (v := 1) dL_law_880 (by decide) ?_
  refine xa_iadd (pc := 881) dL_law_881 ?_
  refine xl_sld (pc := 882) (6 * j + 1) dL_law_882 (xa_pa rfl rfl) (by omega) hL ?_
  refine xa_aload_n (pc := 883) dL_law_883 rfl ?_
  refine xa_iload_n (pc := 884) dL_law_884 rfl ?_
  refine xa_iconst (pc := 885) (v := 2) dL_law_885 (by decide) ?_
  refine xa_iadd (pc := 886) dL_law_886 ?_
  refine xl_sld (pc := 887) (6 * j + 2) dL_law_887 (xa_pa rfl rfl) (by omega) hL ?_
  refine xl_callM (pc := 888) hY.c_ok rfl rfl lcL_101 dL_law_888 (cm_look E S hX.xm_wf hX.hPx (xs (6 * j + 1)) (xs (6 * j + 2))) rfl rfl (by decide) (Nat.le_of_ble_eq_true rfl) (by decide) ?_
  refine xa_icmp_eq (pc := 891) 975 dL_law_891 (by decide) (fun _ => ?_) (fun hc => absurd rfl hc)
  exact K _ _ _ _ _ _ _ _ _ hY hF (by omega) (by omega)
set_option maxHeartbeats 4000000 in
theorem lw_c20 (E : xa_EV) {nh ns kc ks b Ls j : Nat} {pw : Nat → Nat} {xs : Nat → Int32} {La : List Nat} {T S : xa_AH} {R : xa_AR} (hX : RX nh ns 0 pw La T R S) (hF : xm_fb S) (hj : 6 * j + 6 ≤ Ls) (hL : Ls ≤ 3072) (hkc : 34 ≤ kc) (hks : 866 ≤ ks) (K : lw_K E b Ls xs j kc ks) : xa_W E mL (zL b Ls xs) kc ks 896 [some (.ref 191), some (.ref (ci 0 129)), some (.ref 130), some (.int (nI (6 * j)))] [] (La ++ xm_L) (jT T S) (jR R) := by
  refine xa_aload_n (pc := 896) dL_law_896 rfl ?_
  refine xa_aload_n (pc := 897) dL_law_897 rfl ?_
  refine xa_iload_n (pc := 898) dL_law_898 rfl ?_
  refine xa_iconst (pc := 899) (v := 1) dL_law_899 (by decide) ?_
  refine xa_iadd (pc := 900) dL_law_900 ?_
  refine xl_sld (pc := 901) (6 * j + 1) dL_law_901 (xa_pa rfl rfl) (by omega) hL ?_
  refine xa_aload_n (pc := 902) dL_law_902 rfl ?_
  refine xa_iload_n (pc := 903) dL_law_903 rfl ?_
  refine xa_iconst (pc := 904) (v := 2) dL_law_904 (by decide) ?_
  refine xa_iadd (pc := 905) dL_law_905 ?_
  refine xl_sld (pc := 906) (6 * j + 2) dL_law_906 (xa_pa rfl rfl) (by omega) hL ?_
  refine xl_callC (pc := 907) hX.c_ok hX.c_m129 (kd_129 _) rfl lcL_102 dL_law_907 (cx_reach E hX (xs (6 * j + 1)) (xs (6 * j + 2))) rfl rfl (by decide) (Nat.le_of_ble_eq_true rfl) (by decide) ?_
  rintro _ T2 R2 ⟨rfl, hY⟩
  refine xa_aload_n (pc := 910) dL_law_910 rfl ?_
  refine xa_aload_n (pc := 911) dL_law_911 rfl ?_
  refine xa_iload_n (pc := 912) dL_law_912 rfl ?_
  refine xa_iconst (pc := 913) (v := 1) dL_law_913 (by decide) ?_
  refine xa_iadd (pc := 914) dL_law_914 ?_
  refine xl_sld (pc := 915) (6 * j + 1) dL_law_915 (xa_pa rfl rfl) (by omega) hL ?_
  refine xa_aload_n (pc := 916) dL_law_916 rfl ?_
  refine xa_iload_n (pc := 917) dL_law_917 rfl ?_
  refine xa_iconst (pc := 918) (v := 2) dL_law_918 (by decide) ?_
  refine xa_iadd (pc := 919) dL_law_919 ?_
  refine xl_sld (pc := 920) (6 * j + 2) dL_law_920 (xa_pa rfl rfl) (by omega) hL ?_
  refine xl_callM (pc := 921) hY.c_ok rfl rfl lcL_105 dL_law_921 (cm_reach E S hX.xm_wf hX.hPx (xs (6 * j + 1)) (xs (6 * j + 2))) rfl rfl (by decide) (Nat.le_of_ble_eq_true rfl) (by decide) ?_
  refine xa_icmp_eq (pc := 924) 975 dL_law_924 (by decide) (fun _ => ?_) (fun hc => absurd rfl hc)
  exact K _ _ _ _ _ _ _ _ _ hY (fb_reach hF) (by omega) (by omega)
set_option maxHeartbeats 4000000 in
theorem lw_c21 (E : xa_EV) {nh ns kc ks b Ls j : Nat} {pw : Nat → Nat} {xs : Nat → Int32} {La : List Nat} {T S : xa_AH} {R : xa_AR} (hX : RX nh ns 0 pw La T R S) (hF : xm_fb S) (hj : 6 * j + 6 ≤ Ls) (hL : Ls ≤ 3072) (hkc : 34 ≤ kc) (hks : 866 ≤ ks) (K : lw_K E b Ls xs j kc ks) : xa_W E mL (zL b Ls xs) kc ks 929 [some (.ref 191), some (.ref (ci 0 129)), some (.ref 130), some (.int (nI (6 * j)))] [] (La ++ xm_L) (jT T S) (jR R) := by
  refine xa_aload_n (pc := 929) dL_law_929 rfl ?_
  refine xa_aload_n (pc := 930) dL_law_930 rfl ?_
  refine xa_iload_n (pc := 931) dL_law_931 rfl ?_
  refine xa_iconst (pc := 932) (v := 1) dL_law_932 (by decide) ?_
  refine xa_iadd (pc := 933) dL_law_933 ?_
  refine xl_sld (pc := 934) (6 * j + 1) dL_law_934 (xa_pa rfl rfl) (by omega) hL ?_
  refine xl_callC (pc := 935) hX.c_ok hX.c_m129 (kd_129 _) rfl lcL_106 dL_law_935 (cx_twice E hX (xs (6 * j + 1))) rfl rfl (by decide) (Nat.le_of_ble_eq_true rfl) (by decide) ?_
  rintro _ _ _ ⟨rfl, rfl, rfl⟩
  have hY := hX
  refine xa_aload_n (pc := 938) dL_law_938 rfl ?_
  refine xa_aload_n (pc := 939) dL_law_939 rfl ?_
  refine xa_iload_n (pc := 940) dL_law_940 rfl ?_
  refine xa_iconst (pc := 941) (v := 1) dL_law_941 (by decide) ?_
  refine xa_iadd (pc := 942) dL_law_942 ?_
  refine xl_sld (pc := 943) (6 * j + 1) dL_law_943 (xa_pa rfl rfl) (by omega) hL ?_
  refine xl_callM (pc := 944) hY.c_ok rfl rfl lcL_109 dL_law_944 (cm_twice E S hX.xm_wf (xs (6 * j + 1))) rfl rfl (by decide) (Nat.le_of_ble_eq_true rfl) (by decide) ?_
  refine xa_icmp_eq (pc := 947) 975 dL_law_947 (by decide) (fun _ => ?_) (fun hc => absurd rfl hc)
  exact K _ _ _ _ _ _ _ _ _ hY hF (by omega) (by omega)
set_option maxHeartbeats 4000000 in
theorem lw_c22 (E : xa_EV) {nh ns kc ks b Ls j : Nat} {pw : Nat → Nat} {xs : Nat → Int32} {La : List Nat} {T S : xa_AH} {R : xa_AR} (hX : RX nh ns 0 pw La T R S) (hF : xm_fb S) (hj : 6 * j + 6 ≤ Ls) (hL : Ls ≤ 3072) (hkc : 34 ≤ kc) (hks : 866 ≤ ks) (K : lw_K E b Ls xs j kc ks) : xa_W E mL (zL b Ls xs) kc ks 952 [some (.ref 191), some (.ref (ci 0 129)), some (.ref 130), some (.int (nI (6 * j)))] [] (La ++ xm_L) (jT T S) (jR R) := by
  refine xa_aload_n (pc := 952) dL_law_952 rfl ?_
  refine xa_aload_n (pc := 953) dL_law_953 rfl ?_
  refine xa_iload_n (pc := 954) dL_law_954 rfl ?_
  refine xa_iconst (pc := 955) (v := 1) dL_law_955 (by decide) ?_
  refine xa_iadd (pc := 956) dL_law_956 ?_
  refine xl_sld (pc := 957) (6 * j + 1) dL_law_957 (xa_pa rfl rfl) (by omega) hL ?_
  refine xl_callC (pc := 958) hX.c_ok hX.c_m129 (kd_129 _) rfl lcL_110 dL_law_958 (cx_count E hX (xs (6 * j + 1))) rfl rfl (by decide) (Nat.le_of_ble_eq_true rfl) (by decide) ?_
  rintro _ _ _ ⟨rfl, rfl, rfl⟩
  have hY := hX
  refine xa_aload_n (pc := 961) dL_law_961 rfl ?_
  refine xa_aload_n (pc := 962) dL_law_962 rfl ?_
  refine xa_iload_n (pc := 963) dL_law_963 rfl ?_
  refine xa_iconst (pc := 964) (v := 1) dL_law_964 (by decide) ?_
  refine xa_iadd (pc := 965) dL_law_965 ?_
  refine xl_sld (pc := 966) (6 * j + 1) dL_law_966 (xa_pa rfl rfl) (by omega) hL ?_
  refine xl_callM (pc := 967) hY.c_ok rfl rfl lcL_113 dL_law_967 (cm_count E S hX.xm_wf (xs (6 * j + 1))) rfl rfl (by decide) (Nat.le_of_ble_eq_true rfl) (by decide) ?_
  refine xa_icmp_eq (pc := 970) 975 dL_law_970 (by decide) (fun _ => ?_) (fun hc => absurd rfl hc)
  exact K _ _ _ _ _ _ _ _ _ hY hF (by omega) (by omega)
