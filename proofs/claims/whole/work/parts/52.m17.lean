def xm_cy1 (h l to : Nat) (net : Int32) (k : Nat) (S : xa_AH) : xa_AH := if S 179 (16 * l + k) = 0 ∨ ¬ S 179 (16 * to + k) = 0 ∨ xm_car S h (nI k) (S 182 (16 * l + k)) net = false then S else (xa_up (xa_up (xa_up (xa_up (xa_up S 179 (16 * to + k) 1) 180 (16 * to + k) (S 180 (16 * l + k))) 181 (16 * to + k) (S 181 (16 * l + k))) 182 (16 * to + k) (S 182 (16 * l + k))) 130 44 (S 130 44 + 1))
def xm_cyC (h l to : Nat) (net : Int32) (s : Nat) (S : xa_AH) : xa_AH := if ¬ S 183 (32 * l + s) ≤ 0 ∧ xm_car S h (S 147 s) (S 184 (32 * l + s)) net = true then (xa_up (xa_up (xa_up S 130 44 (S 130 44 + (if S 183 (32 * to + s) ≤ 0 then 1 else 0))) 183 (32 * to + s) (S 183 (32 * l + s))) 184 (32 * to + s) (S 184 (32 * l + s))) else S
def xm_cyB (h l to : Nat) (net : Int32) (s : Nat) (S : xa_AH) : xa_AH := if ¬ S 185 (32 * l + s) = 0 ∧ xm_car S h (S 147 s) (S 186 (32 * l + s)) net = true then (xa_up (xa_up (xa_up S 130 44 (S 130 44 + (if S 185 (32 * to + s) = 0 then 1 else 0))) 185 (32 * to + s) 1) 186 (32 * to + s) (S 186 (32 * l + s))) else S
def xm_cyT (h l to : Nat) (net : Int32) (s : Nat) (S : xa_AH) : xa_AH := if ¬ S 187 (32 * l + s) ≤ 0 ∧ ¬ S 189 (32 * l + s) ≤ 1 ∧ xm_car S h (S 147 s) (S 190 (32 * l + s)) net = true then (xa_up (xa_up (xa_up (xa_up (xa_up S 130 44 (S 130 44 + (if S 187 (32 * to + s) ≤ 0 then 1 else 0))) 187 (32 * to + s) (S 187 (32 * l + s))) 188 (32 * to + s) (S 188 (32 * l + s))) 189 (32 * to + s) (S 189 (32 * l + s) - 1)) 190 (32 * to + s) (S 190 (32 * l + s))) else S
def xm_cy2 (h l to : Nat) (net : Int32) (s : Nat) (S : xa_AH) : xa_AH := xm_cyT h l to net s (xm_cyB h l to net s (xm_cyC h l to net s S))
def xm_cyL (ns h l to : Nat) (net : Int32) (S : xa_AH) : xa_AH := xa_lp (xm_cy2 h l to net) ns (xa_lp (xm_cy1 h l to net) 16 S)
def xm_cy (ns h l : Nat) (S : xa_AH) : xa_AH := if S 177 l = S 131 h then xm_cyL ns h l (24 + 2 * h + 1) (S 132 h) S else xm_cyL ns h l (24 + 2 * h) (S 131 h) S
theorem cy1_a {h l to k a : Nat} {net : Int32} {S : xa_AH} (h1 : a ≠ 130) (h2 : a < 179) : xm_cy1 h l to net k S a = S a := by
  unfold xm_cy1; split
  · rfl
  · rw [up_o h1, up_o (by omega), up_o (by omega), up_o (by omega), up_o (by omega)]
theorem cyC_a {h l to k a : Nat} {net : Int32} {S : xa_AH} (h1 : a ≠ 130) (h2 : a < 183 ∨ 184 < a) : xm_cyC h l to net k S a = S a := by
  unfold xm_cyC; split
  · rw [up_o (by omega), up_o (by omega), up_o h1]
  · rfl
theorem cyB_a {h l to k a : Nat} {net : Int32} {S : xa_AH} (h1 : a ≠ 130) (h2 : a < 185 ∨ 186 < a) : xm_cyB h l to net k S a = S a := by
  unfold xm_cyB; split
  · rw [up_o (by omega), up_o (by omega), up_o h1]
  · rfl
theorem cyT_a {h l to k a : Nat} {net : Int32} {S : xa_AH} (h1 : a ≠ 130) (h2 : a < 187) : xm_cyT h l to net k S a = S a := by
  unfold xm_cyT; split
  · rw [up_o (by omega), up_o (by omega), up_o (by omega), up_o (by omega), up_o h1]
  · rfl
theorem cy2_a {h l to k a : Nat} {net : Int32} {S : xa_AH} (h1 : a ≠ 130) (h2 : a < 179) : xm_cy2 h l to net k S a = S a := by
  unfold xm_cy2; rw [cyT_a h1 (by omega), cyB_a h1 (by omega), cyC_a h1 (by omega)]
theorem cy1_c {h l to k j : Nat} {net : Int32} {S : xa_AH} (h1 : j ≠ 44) : xm_cy1 h l to net k S 130 j = S 130 j := by
  unfold xm_cy1; split
  · rfl
  · rw [up_k h1]; rfl
theorem cyC_c {h l to k j : Nat} {net : Int32} {S : xa_AH} (h1 : j ≠ 44) : xm_cyC h l to net k S 130 j = S 130 j := by
  unfold xm_cyC; split
  · rw [up_o (by decide), up_o (by decide), up_k h1]
  · rfl
theorem cyB_c {h l to k j : Nat} {net : Int32} {S : xa_AH} (h1 : j ≠ 44) : xm_cyB h l to net k S 130 j = S 130 j := by
  unfold xm_cyB; split
  · rw [up_o (by decide), up_o (by decide), up_k h1]
  · rfl
theorem cyT_c {h l to k j : Nat} {net : Int32} {S : xa_AH} (h1 : j ≠ 44) : xm_cyT h l to net k S 130 j = S 130 j := by
  unfold xm_cyT; split
  · rw [up_o (by decide), up_o (by decide), up_o (by decide), up_o (by decide), up_k h1]
  · rfl
theorem cy2_c {h l to k j : Nat} {net : Int32} {S : xa_AH} (h1 : j ≠ 44) : xm_cy2 h l to net k S 130 j = S 130 j := by
  unfold xm_cy2; rw [cyT_c h1, cyB_c h1, cyC_c h1]
theorem wf_of {nh ns : Nat} {S S2 : xa_AH} (h : xm_wf nh ns S) (h1 : S2 130 14 = S 130 14) (h2 : S2 130 26 = S 130 26) (h3 : S2 146 = S 146) : xm_wf nh ns S2 := by
  unfold xm_wf; rw [h1, h2, h3]; exact h
theorem nm_of {nh : Nat} {S S2 : xa_AH} (h : xm_nm nh S) (h1 : S2 133 = S 133) (h2 : S2 134 = S 134) : xm_nm nh S2 := by
  unfold xm_nm; rw [h1, h2]; exact h
theorem wf_cyC {nh ns h l to k : Nat} {net : Int32} {S : xa_AH} (hW : xm_wf nh ns S) : xm_wf nh ns (xm_cyC h l to net k S) := wf_of hW (cyC_c (by decide)) (cyC_c (by decide)) (cyC_a (by decide) (by decide))
theorem wf_cyB {nh ns h l to k : Nat} {net : Int32} {S : xa_AH} (hW : xm_wf nh ns S) : xm_wf nh ns (xm_cyB h l to net k S) := wf_of hW (cyB_c (by decide)) (cyB_c (by decide)) (cyB_a (by decide) (by decide))
theorem wf_cyT {nh ns h l to k : Nat} {net : Int32} {S : xa_AH} (hW : xm_wf nh ns S) : xm_wf nh ns (xm_cyT h l to net k S) := wf_of hW (cyT_c (by decide)) (cyT_c (by decide)) (cyT_a (by decide) (by decide))
theorem wf_cy1 {nh ns h l to k : Nat} {net : Int32} {S : xa_AH} (hW : xm_wf nh ns S) : xm_wf nh ns (xm_cy1 h l to net k S) := wf_of hW (cy1_c (by decide)) (cy1_c (by decide)) (cy1_a (by decide) (by decide))
theorem wf_cy2 {nh ns h l to k : Nat} {net : Int32} {S : xa_AH} (hW : xm_wf nh ns S) : xm_wf nh ns (xm_cy2 h l to net k S) := wf_cyT (wf_cyB (wf_cyC hW))
theorem cyL_a {ns h l to a : Nat} {net : Int32} {S : xa_AH} (h1 : a ≠ 130) (h2 : a < 179) : xm_cyL ns h l to net S a = S a := by
  unfold xm_cyL; rw [lp_a (fun i S => cy2_a h1 h2), lp_a (fun i S => cy1_a h1 h2)]
theorem cyL_c {ns h l to j : Nat} {net : Int32} {S : xa_AH} (h1 : j ≠ 44) : xm_cyL ns h l to net S 130 j = S 130 j := by
  unfold xm_cyL; rw [lp_c (fun i S => cy2_c h1), lp_c (fun i S => cy1_c h1)]
theorem cy_a {ns h l a : Nat} {S : xa_AH} (h1 : a ≠ 130) (h2 : a < 179) : xm_cy ns h l S a = S a := by
  unfold xm_cy; split <;> exact cyL_a h1 h2
theorem cy_c {ns h l j : Nat} {S : xa_AH} (h1 : j ≠ 44) : xm_cy ns h l S 130 j = S 130 j := by
  unfold xm_cy; split <;> exact cyL_c h1
set_option maxHeartbeats 4000000 in
theorem lm_cyC {E : xa_EV} {Z : xa_ZC} {S : xa_AH} {nh ns : Nat} (hW : xm_wf nh ns S) {h l to s : Nat} (hh : h < 12) (hl : l < 24) (hto : to < 48) (hs : s < 32) (sd net : Int32) (kk : xa_W E mX8_carries Z 0 0 307 [some (.ref 130), some (.int (nI h)), some (.int (nI l)), some (.int sd), some (.int net), some (.int (nI to)), some (.int (nI s)), some (.int (nI (32 * l + s))), some (.int (nI (32 * to + s)))] [] xm_L (xm_cyC h l to net s S) xm_R) : xa_W E mX8_carries Z 0 0 221 [some (.ref 130), some (.int (nI h)), some (.int (nI l)), some (.int sd), some (.int net), some (.int (nI to)), some (.int (nI s)), some (.int (nI (32 * l + s))), some (.int (nI (32 * to + s)))] [] xm_L S xm_R := by
  obtain ⟨w1, w2, w3, w4, w5⟩ := id hW
  refine xa_aload_n (pc := 221) dX8_carries_221 rfl ?_
  refine xa_getA (pc := 222) 8 52 183 lfX8_131 dX8_carries_222 xm_o rfl rfl rfl ?_
  refine xa_iload (pc := 225) dX8_carries_225 rfl ?_
  refine xa_ialdN (pc := 227) (32 * l + s) dX8_carries_227 xm_183 rfl rfl (by show _ < 1536; omega) (by decide) ?_
  refine xa_if_le (pc := 228) 307 dX8_carries_228 (by decide) (fun h228 => ?_) (fun h228 => ?_)
  · exact xa_eqh (by unfold xm_cyC; rw [if_neg (fun g => g.1 h228)]) kk
  · refine xa_aload_n (pc := 231) dX8_carries_231 rfl ?_
    refine xa_iload_n (pc := 232) dX8_carries_232 rfl ?_
    refine xa_aload_n (pc := 233) dX8_carries_233 rfl ?_
    refine xa_getA (pc := 234) 8 16 147 lfX8_56 dX8_carries_234 xm_o rfl rfl rfl ?_
    refine xa_iload (pc := 237) dX8_carries_237 rfl ?_
    refine xa_ialdN (pc := 239) s dX8_carries_239 xm_147 rfl rfl (by show _ < 32; omega) (by decide) ?_
    refine xa_aload_n (pc := 240) dX8_carries_240 rfl ?_
    refine xa_getA (pc := 241) 8 53 184 lfX8_134 dX8_carries_241 xm_o rfl rfl rfl ?_
    refine xa_iload (pc := 244) dX8_carries_244 rfl ?_
    refine xa_ialdN (pc := 246) (32 * l + s) dX8_carries_246 xm_184 rfl rfl (by show _ < 1536; omega) (by decide) ?_
    refine xa_iload (pc := 247) dX8_carries_247 rfl ?_
    refine xa_callV (pc := 249) xm_o rfl rfl lcX8_283 dX8_carries_249 (cm_isCarried E _ (h := h) rfl (by omega) _ _ _) rfl rfl (by decide) (Nat.le_of_ble_eq_true rfl) (by decide) ?_
    rintro _ _ _ ⟨rfl, rfl, rfl⟩
    refine xa_if_eq (pc := 252) 307 dX8_carries_252 (by decide) (fun h252 => ?_) (fun h252 => ?_)
    · have h252 := xa_b_0.mp h252
      exact xa_eqh (by unfold xm_cyC; rw [if_neg (fun g => by rw [h252] at g; exact absurd g.2 (by decide))]) kk
    · have h252 := xa_b_n0.mp h252
      refine xa_aload_n (pc := 255) dX8_carries_255 rfl ?_
      refine xa_dup (pc := 256) dX8_carries_256 rfl ?_
      refine xa_getI (pc := 257) 8 44 lfX8_286 dX8_carries_257 xm_o rfl rfl ?_
      refine xa_aload_n (pc := 260) dX8_carries_260 rfl ?_
      refine xa_getA (pc := 261) 8 52 183 lfX8_131 dX8_carries_261 xm_o rfl rfl rfl ?_
      refine xa_iload (pc := 264) dX8_carries_264 rfl ?_
      refine xa_ialdN (pc := 266) (32 * to + s) dX8_carries_266 xm_183 rfl rfl (by show _ < 1536; omega) (by decide) ?_
      refine xa_if_le (pc := 267) 274 dX8_carries_267 (by decide) (fun h267 => ?_) (fun h267 => ?_)
      · refine xa_iconst (pc := 274) (v := 1) dX8_carries_274 (by decide) ?_
        refine xa_iadd (pc := 275) dX8_carries_275 ?_
        refine xa_putI (pc := 276) 8 44 lpX8_286 dX8_carries_276 xm_o rfl rfl rfl rfl ?_
        refine xa_aload_n (pc := 279) dX8_carries_279 rfl ?_
        refine xa_getA (pc := 280) 8 52 183 lfX8_131 dX8_carries_280 xm_o rfl rfl rfl ?_
        refine xa_iload (pc := 283) dX8_carries_283 rfl ?_
        refine xa_aload_n (pc := 285) dX8_carries_285 rfl ?_
        refine xa_getA (pc := 286) 8 52 183 lfX8_131 dX8_carries_286 xm_o rfl rfl rfl ?_
        refine xa_iload (pc := 289) dX8_carries_289 rfl ?_
        refine xa_ialdN (pc := 291) (32 * l + s) dX8_carries_291 xm_183 rfl rfl (by show _ < 1536; omega) (by decide) ?_
        refine xa_iastN (pc := 292) (32 * to + s) dX8_carries_292 xm_183 rfl rfl (by show _ < 1536; omega) (by decide) ?_
        refine xa_aload_n (pc := 293) dX8_carries_293 rfl ?_
        refine xa_getA (pc := 294) 8 53 184 lfX8_134 dX8_carries_294 xm_o rfl rfl rfl ?_
        refine xa_iload (pc := 297) dX8_carries_297 rfl ?_
        refine xa_aload_n (pc := 299) dX8_carries_299 rfl ?_
        refine xa_getA (pc := 300) 8 53 184 lfX8_134 dX8_carries_300 xm_o rfl rfl rfl ?_
        refine xa_iload (pc := 303) dX8_carries_303 rfl ?_
        refine xa_ialdN (pc := 305) (32 * l + s) dX8_carries_305 xm_184 rfl rfl (by show _ < 1536; omega) (by decide) ?_
        refine xa_iastN (pc := 306) (32 * to + s) dX8_carries_306 xm_184 rfl rfl (by show _ < 1536; omega) (by decide) ?_
        exact xa_eqh (by unfold xm_cyC; rw [if_pos ⟨h228, h252⟩, if_pos h267] <;> rfl) kk
      · refine xa_iconst (pc := 270) (v := 0) dX8_carries_270 (by decide) ?_
        refine xa_goto (pc := 271) (tgt := 275) dX8_carries_271 (by decide) ?_
        refine xa_iadd (pc := 275) dX8_carries_275 ?_
        refine xa_putI (pc := 276) 8 44 lpX8_286 dX8_carries_276 xm_o rfl rfl rfl rfl ?_
        refine xa_aload_n (pc := 279) dX8_carries_279 rfl ?_
        refine xa_getA (pc := 280) 8 52 183 lfX8_131 dX8_carries_280 xm_o rfl rfl rfl ?_
        refine xa_iload (pc := 283) dX8_carries_283 rfl ?_
        refine xa_aload_n (pc := 285) dX8_carries_285 rfl ?_
        refine xa_getA (pc := 286) 8 52 183 lfX8_131 dX8_carries_286 xm_o rfl rfl rfl ?_
        refine xa_iload (pc := 289) dX8_carries_289 rfl ?_
        refine xa_ialdN (pc := 291) (32 * l + s) dX8_carries_291 xm_183 rfl rfl (by show _ < 1536; omega) (by decide) ?_
        refine xa_iastN (pc := 292) (32 * to + s) dX8_carries_292 xm_183 rfl rfl (by show _ < 1536; omega) (by decide) ?_
        refine xa_aload_n (pc := 293) dX8_carries_293 rfl ?_
        refine xa_getA (pc := 294) 8 53 184 lfX8_134 dX8_carries_294 xm_o rfl rfl rfl ?_
        refine xa_iload (pc := 297) dX8_carries_297 rfl ?_
        refine xa_aload_n (pc := 299) dX8_carries_299 rfl ?_
        refine xa_getA (pc := 300) 8 53 184 lfX8_134 dX8_carries_300 xm_o rfl rfl rfl ?_
        refine xa_iload (pc := 303) dX8_carries_303 rfl ?_
        refine xa_ialdN (pc := 305) (32 * l + s) dX8_carries_305 xm_184 rfl rfl (by show _ < 1536; omega) (by decide) ?_
        refine xa_iastN (pc := 306) (32 * to + s) dX8_carries_306 xm_184 rfl rfl (by show _ < 1536; omega) (by decide) ?_
        exact xa_eqh (by unfold xm_cyC; rw [if_pos ⟨h228, h252⟩, if_neg h267] <;> rfl) kk
set_option maxHeartbeats 4000000 in
theorem lm_cyB {E : xa_EV} {Z : xa_ZC} {S : xa_AH} {nh ns : Nat} (hW : xm_wf nh ns S) {h l to s : Nat} (hh : h < 12) (hl : l < 24) (hto : to < 48) (hs : s < 32) (sd net : Int32) (kk : xa_W E mX8_carries Z 0 0 387 [some (.ref 130), some (.int (nI h)), some (.int (nI l)), some (.int sd), some (.int net), some (.int (nI to)), some (.int (nI s)), some (.int (nI (32 * l + s))), some (.int (nI (32 * to + s)))] [] xm_L (xm_cyB h l to net s S) xm_R) : xa_W E mX8_carries Z 0 0 307 [some (.ref 130), some (.int (nI h)), some (.int (nI l)), some (.int sd), some (.int net), some (.int (nI to)), some (.int (nI s)), some (.int (nI (32 * l + s))), some (.int (nI (32 * to + s)))] [] xm_L S xm_R := by
  obtain ⟨w1, w2, w3, w4, w5⟩ := id hW
  refine xa_aload_n (pc := 307) dX8_carries_307 rfl ?_
  refine xa_getA (pc := 308) 8 54 185 lfX8_137 dX8_carries_308 xm_o rfl rfl rfl ?_
  refine xa_iload (pc := 311) dX8_carries_311 rfl ?_
  refine xa_zaldN (pc := 313) (32 * l + s) dX8_carries_313 xm_185 rfl rfl (by show _ < 1536; omega) (by decide) ?_
  refine xa_if_eq (pc := 314) 387 dX8_carries_314 (by decide) (fun h314 => ?_) (fun h314 => ?_)
  · exact xa_eqh (by unfold xm_cyB; rw [if_neg (fun g => g.1 h314)]) kk
  · refine xa_aload_n (pc := 317) dX8_carries_317 rfl ?_
    refine xa_iload_n (pc := 318) dX8_carries_318 rfl ?_
    refine xa_aload_n (pc := 319) dX8_carries_319 rfl ?_
    refine xa_getA (pc := 320) 8 16 147 lfX8_56 dX8_carries_320 xm_o rfl rfl rfl ?_
    refine xa_iload (pc := 323) dX8_carries_323 rfl ?_
    refine xa_ialdN (pc := 325) s dX8_carries_325 xm_147 rfl rfl (by show _ < 32; omega) (by decide) ?_
    refine xa_aload_n (pc := 326) dX8_carries_326 rfl ?_
    refine xa_getA (pc := 327) 8 55 186 lfX8_140 dX8_carries_327 xm_o rfl rfl rfl ?_
    refine xa_iload (pc := 330) dX8_carries_330 rfl ?_
    refine xa_ialdN (pc := 332) (32 * l + s) dX8_carries_332 xm_186 rfl rfl (by show _ < 1536; omega) (by decide) ?_
    refine xa_iload (pc := 333) dX8_carries_333 rfl ?_
    refine xa_callV (pc := 335) xm_o rfl rfl lcX8_283 dX8_carries_335 (cm_isCarried E _ (h := h) rfl (by omega) _ _ _) rfl rfl (by decide) (Nat.le_of_ble_eq_true rfl) (by decide) ?_
    rintro _ _ _ ⟨rfl, rfl, rfl⟩
    refine xa_if_eq (pc := 338) 387 dX8_carries_338 (by decide) (fun h338 => ?_) (fun h338 => ?_)
    · have h338 := xa_b_0.mp h338
      exact xa_eqh (by unfold xm_cyB; rw [if_neg (fun g => by rw [h338] at g; exact absurd g.2 (by decide))]) kk
    · have h338 := xa_b_n0.mp h338
      refine xa_aload_n (pc := 341) dX8_carries_341 rfl ?_
      refine xa_dup (pc := 342) dX8_carries_342 rfl ?_
      refine xa_getI (pc := 343) 8 44 lfX8_286 dX8_carries_343 xm_o rfl rfl ?_
      refine xa_aload_n (pc := 346) dX8_carries_346 rfl ?_
      refine xa_getA (pc := 347) 8 54 185 lfX8_137 dX8_carries_347 xm_o rfl rfl rfl ?_
      refine xa_iload (pc := 350) dX8_carries_350 rfl ?_
      refine xa_zaldN (pc := 352) (32 * to + s) dX8_carries_352 xm_185 rfl rfl (by show _ < 1536; omega) (by decide) ?_
      refine xa_if_eq (pc := 353) 360 dX8_carries_353 (by decide) (fun h353 => ?_) (fun h353 => ?_)
      · refine xa_iconst (pc := 360) (v := 1) dX8_carries_360 (by decide) ?_
        refine xa_iadd (pc := 361) dX8_carries_361 ?_
        refine xa_putI (pc := 362) 8 44 lpX8_286 dX8_carries_362 xm_o rfl rfl rfl rfl ?_
        refine xa_aload_n (pc := 365) dX8_carries_365 rfl ?_
        refine xa_getA (pc := 366) 8 54 185 lfX8_137 dX8_carries_366 xm_o rfl rfl rfl ?_
        refine xa_iload (pc := 369) dX8_carries_369 rfl ?_
        refine xa_iconst (pc := 371) (v := 1) dX8_carries_371 (by decide) ?_
        refine xa_zastN (pc := 372) (32 * to + s) dX8_carries_372 xm_185 rfl rfl (by show _ < 1536; omega) (by decide) rfl ?_
        refine xa_aload_n (pc := 373) dX8_carries_373 rfl ?_
        refine xa_getA (pc := 374) 8 55 186 lfX8_140 dX8_carries_374 xm_o rfl rfl rfl ?_
        refine xa_iload (pc := 377) dX8_carries_377 rfl ?_
        refine xa_aload_n (pc := 379) dX8_carries_379 rfl ?_
        refine xa_getA (pc := 380) 8 55 186 lfX8_140 dX8_carries_380 xm_o rfl rfl rfl ?_
        refine xa_iload (pc := 383) dX8_carries_383 rfl ?_
        refine xa_ialdN (pc := 385) (32 * l + s) dX8_carries_385 xm_186 rfl rfl (by show _ < 1536; omega) (by decide) ?_
        refine xa_iastN (pc := 386) (32 * to + s) dX8_carries_386 xm_186 rfl rfl (by show _ < 1536; omega) (by decide) ?_
        exact xa_eqh (by unfold xm_cyB; rw [if_pos ⟨h314, h338⟩, if_pos h353] <;> rfl) kk
      · refine xa_iconst (pc := 356) (v := 0) dX8_carries_356 (by decide) ?_
        refine xa_goto (pc := 357) (tgt := 361) dX8_carries_357 (by decide) ?_
        refine xa_iadd (pc := 361) dX8_carries_361 ?_
        refine xa_putI (pc := 362) 8 44 lpX8_286 dX8_carries_362 xm_o rfl rfl rfl rfl ?_
        refine xa_aload_n (pc := 365) dX8_carries_365 rfl ?_
        refine xa_getA (pc := 366) 8 54 185 lfX8_137 dX8_carries_366 xm_o rfl rfl rfl ?_
        refine xa_iload (pc := 369) dX8_carries_369 rfl ?_
        refine xa_iconst (pc := 371) (v := 1) dX8_carries_371 (by decide) ?_
        refine xa_zastN (pc := 372) (32 * to + s) dX8_carries_372 xm_185 rfl rfl (by show _ < 1536; omega) (by decide) rfl ?_
        refine xa_aload_n (pc := 373) dX8_carries_373 rfl ?_
        refine xa_getA (pc := 374) 8 55 186 lfX8_140 dX8_carries_374 xm_o rfl rfl rfl ?_
        refine xa_iload (pc := 377) dX8_carries_377 rfl ?_
        refine xa_aload_n (pc := 379) dX8_carries_379 rfl ?_
        refine xa_getA (pc := 380) 8 55 186 lfX8_140 dX8_carries_380 xm_o rfl rfl rfl ?_
        refine xa_iload (pc := 383) dX8_carries_383 rfl ?_
        refine xa_ialdN (pc := 385) (32 * l + s) dX8_carries_385 xm_186 rfl rfl (by show _ < 1536; omega) (by decide) ?_
        refine xa_iastN (pc := 386) (32 * to + s) dX8_carries_386 xm_186 rfl rfl (by show _ < 1536; omega) (by decide) ?_
        exact xa_eqh (by unfold xm_cyB; rw [if_pos ⟨h314, h338⟩, if_neg h353] <;> rfl) kk
set_option maxHeartbeats 4000000 in
theorem lm_cyT {E : xa_EV} {Z : xa_ZC} {S : xa_AH} {nh ns : Nat} (hW : xm_wf nh ns S) {h l to s : Nat} (hh : h < 12) (hl : l < 24) (hto : to < 48) (hs : s < 32) (sd net : Int32) (kk : xa_W E mX8_carries Z 0 0 514 [some (.ref 130), some (.int (nI h)), some (.int (nI l)), some (.int sd), some (.int net), some (.int (nI to)), some (.int (nI s)), some (.int (nI (32 * l + s))), some (.int (nI (32 * to + s)))] [] xm_L (xm_cyT h l to net s S) xm_R) : xa_W E mX8_carries Z 0 0 387 [some (.ref 130), some (.int (nI h)), some (.int (nI l)), some (.int sd), some (.int net), some (.int (nI to)), some (.int (nI s)), some (.int (nI (32 * l + s))), some (.int (nI (32 * to + s)))] [] xm_L S xm_R := by
  obtain ⟨w1, w2, w3, w4, w5⟩ := id hW
  refine xa_aload_n (pc := 387) dX8_carries_387 rfl ?_
  refine xa_getA (pc := 388) 8 56 187 lfX8_143 dX8_carries_388 xm_o rfl rfl rfl ?_
  refine xa_iload (pc := 391) dX8_carries_391 rfl ?_
  refine xa_ialdN (pc := 393) (32 * l + s) dX8_carries_393 xm_187 rfl rfl (by show _ < 1536; omega) (by decide) ?_
  refine xa_if_le (pc := 394) 514 dX8_carries_394 (by decide) (fun h394 => ?_) (fun h394 => ?_)
  · exact xa_eqh (by unfold xm_cyT; rw [if_neg (fun g => g.1 h394)]) kk
  · refine xa_aload_n (pc := 397) dX8_carries_397 rfl ?_
    refine xa_getA (pc := 398) 8 58 189 lfX8_149 dX8_carries_398 xm_o rfl rfl rfl ?_
    refine xa_iload (pc := 401) dX8_carries_401 rfl ?_
    refine xa_ialdN (pc := 403) (32 * l + s) dX8_carries_403 xm_189 rfl rfl (by show _ < 1536; omega) (by decide) ?_
    refine xa_iconst (pc := 404) (v := 1) dX8_carries_404 (by decide) ?_
    refine xa_icmp_le (pc := 405) 514 dX8_carries_405 (by decide) (fun h405 => ?_) (fun h405 => ?_)
    · exact xa_eqh (by unfold xm_cyT; rw [if_neg (fun g => g.2.1 h405)]) kk
    · refine xa_aload_n (pc := 408) dX8_carries_408 rfl ?_
      refine xa_iload_n (pc := 409) dX8_carries_409 rfl ?_
      refine xa_aload_n (pc := 410) dX8_carries_410 rfl ?_
      refine xa_getA (pc := 411) 8 16 147 lfX8_56 dX8_carries_411 xm_o rfl rfl rfl ?_
      refine xa_iload (pc := 414) dX8_carries_414 rfl ?_
      refine xa_ialdN (pc := 416) s dX8_carries_416 xm_147 rfl rfl (by show _ < 32; omega) (by decide) ?_
      refine xa_aload_n (pc := 417) dX8_carries_417 rfl ?_
      refine xa_getA (pc := 418) 8 59 190 lfX8_152 dX8_carries_418 xm_o rfl rfl rfl ?_
      refine xa_iload (pc := 421) dX8_carries_421 rfl ?_
      refine xa_ialdN (pc := 423) (32 * l + s) dX8_carries_423 xm_190 rfl rfl (by show _ < 1536; omega) (by decide) ?_
      refine xa_iload (pc := 424) dX8_carries_424 rfl ?_
      refine xa_callV (pc := 426) xm_o rfl rfl lcX8_283 dX8_carries_426 (cm_isCarried E _ (h := h) rfl (by omega) _ _ _) rfl rfl (by decide) (Nat.le_of_ble_eq_true rfl) (by decide) ?_
      rintro _ _ _ ⟨rfl, rfl, rfl⟩
      refine xa_if_eq (pc := 429) 514 dX8_carries_429 (by decide) (fun h429 => ?_) (fun h429 => ?_)
      · have h429 := xa_b_0.mp h429
        exact xa_eqh (by unfold xm_cyT; rw [if_neg (fun g => by rw [h429] at g; exact absurd g.2.2 (by decide))]) kk
      · have h429 := xa_b_n0.mp h429
        refine xa_aload_n (pc := 432) dX8_carries_432 rfl ?_
        refine xa_dup (pc := 433) dX8_carries_433 rfl ?_
        refine xa_getI (pc := 434) 8 44 lfX8_286 dX8_carries_434 xm_o rfl rfl ?_
        refine xa_aload_n (pc := 437) dX8_carries_437 rfl ?_
        refine xa_getA (pc := 438) 8 56 187 lfX8_143 dX8_carries_438 xm_o rfl rfl rfl ?_
        refine xa_iload (pc := 441) dX8_carries_441 rfl ?_
        refine xa_ialdN (pc := 443) (32 * to + s) dX8_carries_443 xm_187 rfl rfl (by show _ < 1536; omega) (by decide) ?_
        refine xa_if_le (pc := 444) 451 dX8_carries_444 (by decide) (fun h444 => ?_) (fun h444 => ?_)
        · refine xa_iconst (pc := 451) (v := 1) dX8_carries_451 (by decide) ?_
          refine xa_iadd (pc := 452) dX8_carries_452 ?_
          refine xa_putI (pc := 453) 8 44 lpX8_286 dX8_carries_453 xm_o rfl rfl rfl rfl ?_
          refine xa_aload_n (pc := 456) dX8_carries_456 rfl ?_
          refine xa_getA (pc := 457) 8 56 187 lfX8_143 dX8_carries_457 xm_o rfl rfl rfl ?_
          refine xa_iload (pc := 460) dX8_carries_460 rfl ?_
          refine xa_aload_n (pc := 462) dX8_carries_462 rfl ?_
          refine xa_getA (pc := 463) 8 56 187 lfX8_143 dX8_carries_463 xm_o rfl rfl rfl ?_
          refine xa_iload (pc := 466) dX8_carries_466 rfl ?_
          refine xa_ialdN (pc := 468) (32 * l + s) dX8_carries_468 xm_187 rfl rfl (by show _ < 1536; omega) (by decide) ?_
          refine xa_iastN (pc := 469) (32 * to + s) dX8_carries_469 xm_187 rfl rfl (by show _ < 1536; omega) (by decide) ?_
          refine xa_aload_n (pc := 470) dX8_carries_470 rfl ?_
          refine xa_getA (pc := 471) 8 57 188 lfX8_146 dX8_carries_471 xm_o rfl rfl rfl ?_
          refine xa_iload (pc := 474) dX8_carries_474 rfl ?_
          refine xa_aload_n (pc := 476) dX8_carries_476 rfl ?_
          refine xa_getA (pc := 477) 8 57 188 lfX8_146 dX8_carries_477 xm_o rfl rfl rfl ?_
          refine xa_iload (pc := 480) dX8_carries_480 rfl ?_
          refine xa_ialdN (pc := 482) (32 * l + s) dX8_carries_482 xm_188 rfl rfl (by show _ < 1536; omega) (by decide) ?_
          refine xa_iastN (pc := 483) (32 * to + s) dX8_carries_483 xm_188 rfl rfl (by show _ < 1536; omega) (by decide) ?_
          refine xa_aload_n (pc := 484) dX8_carries_484 rfl ?_
          refine xa_getA (pc := 485) 8 58 189 lfX8_149 dX8_carries_485 xm_o rfl rfl rfl ?_
          refine xa_iload (pc := 488) dX8_carries_488 rfl ?_
          refine xa_aload_n (pc := 490) dX8_carries_490 rfl ?_
          refine xa_getA (pc := 491) 8 58 189 lfX8_149 dX8_carries_491 xm_o rfl rfl rfl ?_
          refine xa_iload (pc := 494) dX8_carries_494 rfl ?_
          refine xa_ialdN (pc := 496) (32 * l + s) dX8_carries_496 xm_189 rfl rfl (by show _ < 1536; omega) (by decide) ?_
          refine xa_iconst (pc := 497) (v := 1) dX8_carries_497 (by decide) ?_
          refine xa_isub (pc := 498) dX8_carries_498 ?_
          refine xa_iastN (pc := 499) (32 * to + s) dX8_carries_499 xm_189 rfl rfl (by show _ < 1536; omega) (by decide) ?_
          refine xa_aload_n (pc := 500) dX8_carries_500 rfl ?_
          refine xa_getA (pc := 501) 8 59 190 lfX8_152 dX8_carries_501 xm_o rfl rfl rfl ?_
          refine xa_iload (pc := 504) dX8_carries_504 rfl ?_
          refine xa_aload_n (pc := 506) dX8_carries_506 rfl ?_
          refine xa_getA (pc := 507) 8 59 190 lfX8_152 dX8_carries_507 xm_o rfl rfl rfl ?_
          refine xa_iload (pc := 510) dX8_carries_510 rfl ?_
          refine xa_ialdN (pc := 512) (32 * l + s) dX8_carries_512 xm_190 rfl rfl (by show _ < 1536; omega) (by decide) ?_
          refine xa_iastN (pc := 513) (32 * to + s) dX8_carries_513 xm_190 rfl rfl (by show _ < 1536; omega) (by decide) ?_
          exact xa_eqh (by unfold xm_cyT; rw [if_pos ⟨h394, h405, h429⟩, if_pos h444] <;> rfl) kk
        · refine xa_iconst (pc := 447) (v := 0) dX8_carries_447 (by decide) ?_
          refine xa_goto (pc := 448) (tgt := 452) dX8_carries_448 (by decide) ?_
          refine xa_iadd (pc := 452) dX8_carries_452 ?_
          refine xa_putI (pc := 453) 8 44 lpX8_286 dX8_carries_453 xm_o rfl rfl rfl rfl ?_
          refine xa_aload_n (pc := 456) dX8_carries_456 rfl ?_
          refine xa_getA (pc := 457) 8 56 187 lfX8_143 dX8_carries_457 xm_o rfl rfl rfl ?_
          refine xa_iload (pc := 460) dX8_carries_460 rfl ?_
          refine xa_aload_n (pc := 462) dX8_carries_462 rfl ?_
          refine xa_getA (pc := 463) 8 56 187 lfX8_143 dX8_carries_463 xm_o rfl rfl rfl ?_
          refine xa_iload (pc := 466) dX8_carries_466 rfl ?_
          refine xa_ialdN (pc := 468) (32 * l + s) dX8_carries_468 xm_187 rfl rfl (by show _ < 1536; omega) (by decide) ?_
          refine xa_iastN (pc := 469) (32 * to + s) dX8_carries_469 xm_187 rfl rfl (by show _ < 1536; omega) (by decide) ?_
          refine xa_aload_n (pc := 470) dX8_carries_470 rfl ?_
          refine xa_getA (pc := 471) 8 57 188 lfX8_146 dX8_carries_471 xm_o rfl rfl rfl ?_
          refine xa_iload (pc := 474) dX8_carries_474 rfl ?_
          refine xa_aload_n (pc := 476) dX8_carries_476 rfl ?_
          refine xa_getA (pc := 477) 8 57 188 lfX8_146 dX8_carries_477 xm_o rfl rfl rfl ?_
          refine xa_iload (pc := 480) dX8_carries_480 rfl ?_
          refine xa_ialdN (pc := 482) (32 * l + s) dX8_carries_482 xm_188 rfl rfl (by show _ < 1536; omega) (by decide) ?_
          refine xa_iastN (pc := 483) (32 * to + s) dX8_carries_483 xm_188 rfl rfl (by show _ < 1536; omega) (by decide) ?_
          refine xa_aload_n (pc := 484) dX8_carries_484 rfl ?_
          refine xa_getA (pc := 485) 8 58 189 lfX8_149 dX8_carries_485 xm_o rfl rfl rfl ?_
          refine xa_iload (pc := 488) dX8_carries_488 rfl ?_
          refine xa_aload_n (pc := 490) dX8_carries_490 rfl ?_
          refine xa_getA (pc := 491) 8 58 189 lfX8_149 dX8_carries_491 xm_o rfl rfl rfl ?_
          refine xa_iload (pc := 494) dX8_carries_494 rfl ?_
          refine xa_ialdN (pc := 496) (32 * l + s) dX8_carries_496 xm_189 rfl rfl (by show _ < 1536; omega) (by decide) ?_
          refine xa_iconst (pc := 497) (v := 1) dX8_carries_497 (by decide) ?_
          refine xa_isub (pc := 498) dX8_carries_498 ?_
          refine xa_iastN (pc := 499) (32 * to + s) dX8_carries_499 xm_189 rfl rfl (by show _ < 1536; omega) (by decide) ?_
          refine xa_aload_n (pc := 500) dX8_carries_500 rfl ?_
          refine xa_getA (pc := 501) 8 59 190 lfX8_152 dX8_carries_501 xm_o rfl rfl rfl ?_
          refine xa_iload (pc := 504) dX8_carries_504 rfl ?_
          refine xa_aload_n (pc := 506) dX8_carries_506 rfl ?_
          refine xa_getA (pc := 507) 8 59 190 lfX8_152 dX8_carries_507 xm_o rfl rfl rfl ?_
          refine xa_iload (pc := 510) dX8_carries_510 rfl ?_
          refine xa_ialdN (pc := 512) (32 * l + s) dX8_carries_512 xm_190 rfl rfl (by show _ < 1536; omega) (by decide) ?_
          refine xa_iastN (pc := 513) (32 * to + s) dX8_carries_513 xm_190 rfl rfl (by show _ < 1536; omega) (by decide) ?_
          exact xa_eqh (by unfold xm_cyT; rw [if_pos ⟨h394, h405, h429⟩, if_neg h444] <;> rfl) kk
