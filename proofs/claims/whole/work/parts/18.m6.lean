def xm_hc1 (ns h s : Nat) (n t : Int32) (x : Nat) (S : xa_AH) : xa_AH := if x = s ∨ ¬ S 156 x = 0 ∨ xm_spk S h x = false ∨ ¬ S 148 x = n then S else if S 151 x = 2 then xm_due S h x (t + 1) else if xm_str S s x = true then xm_yld ns S x else S
def xm_hc (ns h s : Nat) (n t : Int32) (S : xa_AH) : xa_AH := xa_lp (xm_hc1 ns h s n t) ns S
theorem xm_wf_hc1 {nh ns h s x : Nat} {n t : Int32} {S : xa_AH} (hw : xm_wf nh ns S) : xm_wf nh ns (xm_hc1 ns h s n t x S) := by
  unfold xm_hc1; split
  · exact hw
  · split
    · exact xm_wf_due hw
    · split
      · exact xm_wf_yld hw
      · exact hw
theorem xm_wf_hc {nh ns h s : Nat} {n t : Int32} {S : xa_AH} (hw : xm_wf nh ns S) : xm_wf nh ns (xm_hc ns h s n t S) := xa_lp_inv hw (fun i U _ hU => xm_wf_hc1 hU)
theorem xm_nm_hc1 {nh ns h s x : Nat} {n t : Int32} {S : xa_AH} (hw : xm_nm nh S) : xm_nm nh (xm_hc1 ns h s n t x S) := by
  unfold xm_hc1; split
  · exact hw
  · split
    · exact xm_nm_due hw
    · split
      · exact xm_nm_yld hw
      · exact hw
theorem xm_nm_hc {nh ns h s : Nat} {n t : Int32} {S : xa_AH} (hw : xm_nm nh S) : xm_nm nh (xm_hc ns h s n t S) := xa_lp_inv hw (fun i U _ hU => xm_nm_hc1 hU)
set_option maxHeartbeats 4000000 in
theorem lm_hearsClaim (E : xa_EV) (S : xa_AH) {nh ns : Nat} (hW0 : xm_wf nh ns S) (hN0 : xm_nm nh S) {h s : Nat} (hh : h < 12) (hsn : s < ns) (n t : Int32) : ∀ x, x ≤ ns → ∀ T, T = xa_lp (xm_hc1 ns h s n t) x S → xa_W E mX8_hearsClaim (xa_Z E mX8_hearsClaim xm_L (xa_pV (xm_hc ns h s n t S) xm_R)) 0 0 3 [some (.ref 130), some (.int (nI h)), some (.int (nI s)), some (.int n), some (.int t), some (.int (nI x))] [] xm_L T xm_R := by
  refine xa_dn (fun x hxl ih => ?_)
  intro T eT
  have hW : xm_wf nh ns T := by rw [eT]; exact xa_lp_inv hW0 (fun i U _ hU => xm_wf_hc1 hU)
  have hN : xm_nm nh T := by rw [eT]; exact xa_lp_inv hN0 (fun i U _ hU => xm_nm_hc1 hU)
  obtain ⟨w1, w2, w3, w4, w5⟩ := id hW
  refine xa_iload (pc := 3) dX8_hearsClaim_3 rfl ?_
  refine xa_aload_n (pc := 5) dX8_hearsClaim_5 rfl ?_
  refine xa_getI (pc := 6) 8 26 lfX8_170 dX8_hearsClaim_6 xm_o rfl rfl ?_
  refine xa_icmpN_ge (pc := 9) 99 x ns dX8_hearsClaim_9 (by decide) rfl w4 (by omega) (by omega) (fun h9 => ?_) (fun h9 => ?_)
  · have g9 : ¬ (x < ns) := by omega
    have ex9 : x = ns := by omega
    subst ex9
    exact xa_vret dX8_hearsClaim_99 rfl ⟨rfl, eT.symm, rfl⟩
  · refine xa_iload (pc := 12) dX8_hearsClaim_12 rfl ?_
    refine xa_iload_n (pc := 14) dX8_hearsClaim_14 rfl ?_
    refine xa_icmpN_eq (pc := 15) 93 x s dX8_hearsClaim_15 (by decide) rfl rfl (by omega) (by omega) (fun h15 => ?_) (fun h15 => ?_)
    · refine xa_iinc (pc := 93) (v := nI (x + 1)) dX8_hearsClaim_93 rfl (by decide) (nI_1 _) ?_
      refine xa_goto (pc := 96) (tgt := 3) dX8_hearsClaim_96 (by decide) ?_
      exact xa_fgk (ih (by omega) _ (by rw [xa_lp, ← eT]; simp [xm_hc1, h9, h15])) (And.intro rfl (And.intro rfl (And.intro rfl (And.intro rfl (And.intro rfl (And.intro rfl trivial))))))
    · refine xa_aload_n (pc := 18) dX8_hearsClaim_18 rfl ?_
      refine xa_getA (pc := 19) 8 25 156 lfX8_83 dX8_hearsClaim_19 xm_o rfl rfl rfl ?_
      refine xa_iload (pc := 22) dX8_hearsClaim_22 rfl ?_
      refine xa_zaldN (pc := 24) x dX8_hearsClaim_24 xm_156 rfl rfl (by show _ < 32; omega) (by decide) ?_
      refine xa_if_ne (pc := 25) 93 dX8_hearsClaim_25 (by decide) (fun h25 => ?_) (fun h25 => ?_)
      · refine xa_iinc (pc := 93) (v := nI (x + 1)) dX8_hearsClaim_93 rfl (by decide) (nI_1 _) ?_
        refine xa_goto (pc := 96) (tgt := 3) dX8_hearsClaim_96 (by decide) ?_
        exact xa_fgk (ih (by omega) _ (by rw [xa_lp, ← eT]; simp [xm_hc1, h9, h15, h25])) (And.intro rfl (And.intro rfl (And.intro rfl (And.intro rfl (And.intro rfl (And.intro rfl trivial))))))
      · refine xa_aload_n (pc := 28) dX8_hearsClaim_28 rfl ?_
        refine xa_iload_n (pc := 29) dX8_hearsClaim_29 rfl ?_
        refine xa_iload (pc := 30) dX8_hearsClaim_30 rfl ?_
        refine xa_callV (pc := 32) xm_o rfl rfl lcX8_270 dX8_hearsClaim_32 (cm_speaksFor E _ hW rfl rfl (by omega) (by omega)) rfl rfl (by decide) (Nat.le_of_ble_eq_true rfl) (by decide) ?_
        rintro _ _ _ ⟨rfl, rfl, rfl⟩
        refine xa_if_eq (pc := 35) 93 dX8_hearsClaim_35 (by decide) (fun h35 => ?_) (fun h35 => ?_)
        · have h35 := xa_b_0.mp h35
          refine xa_iinc (pc := 93) (v := nI (x + 1)) dX8_hearsClaim_93 rfl (by decide) (nI_1 _) ?_
          refine xa_goto (pc := 96) (tgt := 3) dX8_hearsClaim_96 (by decide) ?_
          exact xa_fgk (ih (by omega) _ (by rw [xa_lp, ← eT]; simp [xm_hc1, h9, h15, h25, h35])) (And.intro rfl (And.intro rfl (And.intro rfl (And.intro rfl (And.intro rfl (And.intro rfl trivial))))))
        · have h35 := xa_b_n0.mp h35
          refine xa_aload_n (pc := 38) dX8_hearsClaim_38 rfl ?_
          refine xa_getA (pc := 39) 8 17 148 lfX8_59 dX8_hearsClaim_39 xm_o rfl rfl rfl ?_
          refine xa_iload (pc := 42) dX8_hearsClaim_42 rfl ?_
          refine xa_ialdN (pc := 44) x dX8_hearsClaim_44 xm_148 rfl rfl (by show _ < 32; omega) (by decide) ?_
          refine xa_iload_n (pc := 45) dX8_hearsClaim_45 rfl ?_
          refine xa_icmp_eq (pc := 46) 52 dX8_hearsClaim_46 (by decide) (fun h46 => ?_) (fun h46 => ?_)
          · refine xa_aload_n (pc := 52) dX8_hearsClaim_52 rfl ?_
            refine xa_getA (pc := 53) 8 20 151 lfX8_68 dX8_hearsClaim_53 xm_o rfl rfl rfl ?_
            refine xa_iload (pc := 56) dX8_hearsClaim_56 rfl ?_
            refine xa_ialdN (pc := 58) x dX8_hearsClaim_58 xm_151 rfl rfl (by show _ < 32; omega) (by decide) ?_
            refine xa_iconst (pc := 59) (v := 2) dX8_hearsClaim_59 (by decide) ?_
            refine xa_icmp_ne (pc := 60) 77 dX8_hearsClaim_60 (by decide) (fun h60 => ?_) (fun h60 => ?_)
            · refine xa_aload_n (pc := 77) dX8_hearsClaim_77 rfl ?_
              refine xa_iload_n (pc := 78) dX8_hearsClaim_78 rfl ?_
              refine xa_iload (pc := 79) dX8_hearsClaim_79 rfl ?_
              refine xa_callV (pc := 81) xm_o rfl rfl lcX8_305 dX8_hearsClaim_81 (cm_isStronger E _ hW rfl rfl (by omega) (by omega)) rfl rfl (by decide) (Nat.le_of_ble_eq_true rfl) (by decide) ?_
              rintro _ _ _ ⟨rfl, rfl, rfl⟩
              refine xa_if_eq (pc := 84) 93 dX8_hearsClaim_84 (by decide) (fun h84 => ?_) (fun h84 => ?_)
              · have h84 := xa_b_0.mp h84
                refine xa_iinc (pc := 93) (v := nI (x + 1)) dX8_hearsClaim_93 rfl (by decide) (nI_1 _) ?_
                refine xa_goto (pc := 96) (tgt := 3) dX8_hearsClaim_96 (by decide) ?_
                exact xa_fgk (ih (by omega) _ (by rw [xa_lp, ← eT]; simp [xm_hc1, h9, h15, h25, h35, h46, h60, h84])) (And.intro rfl (And.intro rfl (And.intro rfl (And.intro rfl (And.intro rfl (And.intro rfl trivial))))))
              · have h84 := xa_b_n0.mp h84
                refine xa_aload_n (pc := 87) dX8_hearsClaim_87 rfl ?_
                refine xa_iload (pc := 88) dX8_hearsClaim_88 rfl ?_
                refine xa_callV (pc := 90) xm_o rfl rfl lcX8_308 dX8_hearsClaim_90 (cm_yieldsName E _ hW hN rfl (by omega)) rfl rfl (by decide) (Nat.le_of_ble_eq_true rfl) (by decide) ?_
                rintro _ _ _ ⟨rfl, rfl, rfl⟩
                refine xa_iinc (pc := 93) (v := nI (x + 1)) dX8_hearsClaim_93 rfl (by decide) (nI_1 _) ?_
                refine xa_goto (pc := 96) (tgt := 3) dX8_hearsClaim_96 (by decide) ?_
                exact xa_fgk (ih (by omega) _ (by rw [xa_lp, ← eT]; simp [xm_hc1, h9, h15, h25, h35, h46, h60, h84])) (And.intro rfl (And.intro rfl (And.intro rfl (And.intro rfl (And.intro rfl (And.intro rfl trivial))))))
            · refine xa_aload_n (pc := 63) dX8_hearsClaim_63 rfl ?_
              refine xa_iload_n (pc := 64) dX8_hearsClaim_64 rfl ?_
              refine xa_iload (pc := 65) dX8_hearsClaim_65 rfl ?_
              refine xa_iload (pc := 67) dX8_hearsClaim_67 rfl ?_
              refine xa_iconst (pc := 69) (v := 1) dX8_hearsClaim_69 (by decide) ?_
              refine xa_iadd (pc := 70) dX8_hearsClaim_70 ?_
              refine xa_callV (pc := 71) xm_o rfl rfl lcX8_302 dX8_hearsClaim_71 (cm_isDue E _ rfl rfl (by omega) (by omega) _) rfl rfl (by decide) (Nat.le_of_ble_eq_true rfl) (by decide) ?_
              rintro _ _ _ ⟨rfl, rfl, rfl⟩
              refine xa_goto (pc := 74) (tgt := 93) dX8_hearsClaim_74 (by decide) ?_
              refine xa_iinc (pc := 93) (v := nI (x + 1)) dX8_hearsClaim_93 rfl (by decide) (nI_1 _) ?_
              refine xa_goto (pc := 96) (tgt := 3) dX8_hearsClaim_96 (by decide) ?_
              exact xa_fgk (ih (by omega) _ (by rw [xa_lp, ← eT]; simp [xm_hc1, h9, h15, h25, h35, h46, h60])) (And.intro rfl (And.intro rfl (And.intro rfl (And.intro rfl (And.intro rfl (And.intro rfl trivial))))))
          · refine xa_goto (pc := 49) (tgt := 93) dX8_hearsClaim_49 (by decide) ?_
            refine xa_iinc (pc := 93) (v := nI (x + 1)) dX8_hearsClaim_93 rfl (by decide) (nI_1 _) ?_
            refine xa_goto (pc := 96) (tgt := 3) dX8_hearsClaim_96 (by decide) ?_
            exact xa_fgk (ih (by omega) _ (by rw [xa_lp, ← eT]; simp [xm_hc1, h9, h15, h25, h35, h46])) (And.intro rfl (And.intro rfl (And.intro rfl (And.intro rfl (And.intro rfl (And.intro rfl trivial))))))
set_option maxHeartbeats 4000000 in
theorem cm_hearsClaim (E : xa_EV) (S : xa_AH) {nh ns : Nat} (hW : xm_wf nh ns S) (hN : xm_nm nh S) {h : Nat} {xh : Int32} (eh : xh = nI h) {s : Nat} {xs : Int32} (es : xs = nI s) (hh : h < 12) (hsn : s < ns) (n t : Int32) : xa_Ct E mX8_hearsClaim [.ref 130, .int xh, .int xs, .int n, .int t] xm_L S xm_R (xa_pV (xm_hc ns h s n t S) xm_R) := by
  subst eh; subst es
  refine xa_Ct.of [some (.ref 130), some (.int (nI h)), some (.int (nI s)), some (.int n), some (.int t), none] rfl (Nat.le_of_ble_eq_true rfl) (by simp [Value.category]) rfl ?_
  obtain ⟨w1, w2, w3, w4, w5⟩ := id hW
  refine xa_iconst (pc := 0) (v := 0) dX8_hearsClaim_0 (by decide) ?_
  refine xa_istore (pc := 1) dX8_hearsClaim_1 (by decide) ?_
  exact lm_hearsClaim E S hW hN hh hsn n t 0 (Nat.zero_le _) _ rfl
def xm_ht1 (ns h s : Nat) (n t : Int32) (x : Nat) (S : xa_AH) : xa_AH := if x = s ∨ ¬ S 156 x = 0 ∨ xm_spk S h x = false ∨ ¬ S 148 x = n then S else if S 151 x = 1 ∨ xm_str S s x = true then xm_yld ns S x else xm_due S h x (t + 1)
theorem xm_wf_ht1 {nh ns h s x : Nat} {n t : Int32} {S : xa_AH} (hw : xm_wf nh ns S) : xm_wf nh ns (xm_ht1 ns h s n t x S) := by
  unfold xm_ht1; split
  · exact hw
  · split
    · exact xm_wf_yld hw
    · exact xm_wf_due hw
theorem xm_nm_ht1 {nh ns h s x : Nat} {n t : Int32} {S : xa_AH} (hw : xm_nm nh S) : xm_nm nh (xm_ht1 ns h s n t x S) := by
  unfold xm_ht1; split
  · exact hw
  · split
    · exact xm_nm_yld hw
    · exact xm_nm_due hw
def xm_ht2 (h s : Nat) (n : Int32) (S : xa_AH) (x : Nat) : Bool := !decide (x = s) && (decide (¬ S 158 (32 * h + x) = 0) && (decide (S 159 (32 * h + x) = n) && xm_str S x s))
def xm_ht3 (h s : Nat) (n : Int32) (x : Nat) (S : xa_AH) : xa_AH := if x = s ∨ ¬ S 159 (32 * h + x) = n then S else xa_up S 158 (32 * h + x) 0
theorem xm_wf_ht3 {nh ns h s x : Nat} {n : Int32} {S : xa_AH} (hw : xm_wf nh ns S) : xm_wf nh ns (xm_ht3 h s n x S) := by
  unfold xm_ht3; split
  · exact hw
  · exact xm_wf_up hw rfl
theorem xm_nm_ht3 {nh h s x : Nat} {n : Int32} {S : xa_AH} (hw : xm_nm nh S) : xm_nm nh (xm_ht3 h s n x S) := by
  unfold xm_ht3; split
  · exact hw
  · exact xm_nm_up hw rfl
def xm_htS (h s row : Nat) (n d t : Int32) (S : xa_AH) : xa_AH := (xa_up (xa_up (xa_up (xa_up (xa_up S 158 (32 * h + s) 1) 159 (32 * h + s) n) 160 (32 * h + s) (S 188 row)) 161 (32 * h + s) d) 162 (32 * h + s) (t + 1 + d))
def xm_htB (ns h s row : Nat) (n d t : Int32) (S : xa_AH) : xa_AH := if xa_any (xm_ht2 h s n S) ns = true then (xa_up S 130 41 (S 130 41 + 1)) else xm_htS h s row n d t (xa_lp (xm_ht3 h s n) ns S)
def xm_htC (ns h s row : Nat) (n d t : Int32) (S : xa_AH) : xa_AH := if S 146 s = nI h then S else xm_htB ns h s row n d t S
def xm_htD (ns h s row : Nat) (n d t : Int32) (S : xa_AH) : xa_AH := xm_htC ns h s row n d t (if 2 * d < S 150 s then S else xa_up S 163 (32 * h + s) (-1))
def xm_ht (ns h s row : Nat) (t : Int32) (S : xa_AH) : xa_AH := if xm_in (S 187 row) (S 133 (xc (S 146 s))) (S 134 (xc (S 146 s))) = true then xm_htD ns h s row (S 187 row) (S 189 row) t (xa_lp (xm_ht1 ns h s (S 187 row) t) ns S) else (xa_up S 130 40 (S 130 40 + 1))
set_option maxHeartbeats 4000000 in
theorem lm_ht330 (E : xa_EV) (S : xa_AH) {nh ns : Nat} (hW : xm_wf nh ns S) {h s row : Nat} (hh : h < 12) (hsn : s < ns) (hrow : row < 1536) (n d t : Int32) : xa_W E mX8_hearsTelling (xa_Z E mX8_hearsTelling xm_L (xa_pV (xm_htS h s row n d t S) xm_R)) 0 0 330 [some (.ref 130), some (.int (nI h)), some (.int (nI s)), some (.int (nI row)), some (.int t), some (.int n), some (.int d), some (.int (nI (32 * h + s))), none, none] [] xm_L S xm_R := by
  obtain ⟨w1, w2, w3, w4, w5⟩ := id hW
  refine xa_aload_n (pc := 330) dX8_hearsTelling_330 rfl ?_
  refine xa_getA (pc := 331) 8 27 158 lfX8_86 dX8_hearsTelling_331 xm_o rfl rfl rfl ?_
  refine xa_iload (pc := 334) dX8_hearsTelling_334 rfl ?_
  refine xa_iconst (pc := 336) (v := 1) dX8_hearsTelling_336 (by decide) ?_
  refine xa_zastN (pc := 337) (32 * h + s) dX8_hearsTelling_337 xm_158 rfl rfl (by show _ < 384; omega) (by decide) rfl ?_
  refine xa_aload_n (pc := 338) dX8_hearsTelling_338 rfl ?_
  refine xa_getA (pc := 339) 8 28 159 lfX8_89 dX8_hearsTelling_339 xm_o rfl rfl rfl ?_
  refine xa_iload (pc := 342) dX8_hearsTelling_342 rfl ?_
  refine xa_iload (pc := 344) dX8_hearsTelling_344 rfl ?_
  refine xa_iastN (pc := 346) (32 * h + s) dX8_hearsTelling_346 xm_159 rfl rfl (by show _ < 384; omega) (by decide) ?_
  refine xa_aload_n (pc := 347) dX8_hearsTelling_347 rfl ?_
  refine xa_getA (pc := 348) 8 29 160 lfX8_92 dX8_hearsTelling_348 xm_o rfl rfl rfl ?_
  refine xa_iload (pc := 351) dX8_hearsTelling_351 rfl ?_
  refine xa_aload_n (pc := 353) dX8_hearsTelling_353 rfl ?_
  refine xa_getA (pc := 354) 8 57 188 lfX8_146 dX8_hearsTelling_354 xm_o rfl rfl rfl ?_
  refine xa_iload_n (pc := 357) dX8_hearsTelling_357 rfl ?_
  refine xa_ialdN (pc := 358) row dX8_hearsTelling_358 xm_188 rfl rfl (by show _ < 1536; omega) (by decide) ?_
  refine xa_iastN (pc := 359) (32 * h + s) dX8_hearsTelling_359 xm_160 rfl rfl (by show _ < 384; omega) (by decide) ?_
  refine xa_aload_n (pc := 360) dX8_hearsTelling_360 rfl ?_
  refine xa_getA (pc := 361) 8 30 161 lfX8_95 dX8_hearsTelling_361 xm_o rfl rfl rfl ?_
  refine xa_iload (pc := 364) dX8_hearsTelling_364 rfl ?_
  refine xa_iload (pc := 366) dX8_hearsTelling_366 rfl ?_
  refine xa_iastN (pc := 368) (32 * h + s) dX8_hearsTelling_368 xm_161 rfl rfl (by show _ < 384; omega) (by decide) ?_
  refine xa_aload_n (pc := 369) dX8_hearsTelling_369 rfl ?_
  refine xa_getA (pc := 370) 8 31 162 lfX8_98 dX8_hearsTelling_370 xm_o rfl rfl rfl ?_
  refine xa_iload (pc := 373) dX8_hearsTelling_373 rfl ?_
  refine xa_iload (pc := 375) dX8_hearsTelling_375 rfl ?_
  refine xa_iconst (pc := 377) (v := 1) dX8_hearsTelling_377 (by decide) ?_
  refine xa_iadd (pc := 378) dX8_hearsTelling_378 ?_
  refine xa_iload (pc := 379) dX8_hearsTelling_379 rfl ?_
  refine xa_iadd (pc := 381) dX8_hearsTelling_381 ?_
  refine xa_iastN (pc := 382) (32 * h + s) dX8_hearsTelling_382 xm_162 rfl rfl (by show _ < 384; omega) (by decide) ?_
  exact xa_vret dX8_hearsTelling_383 rfl ⟨rfl, rfl, rfl⟩
set_option maxHeartbeats 4000000 in
theorem lm_ht279 (E : xa_EV) (S : xa_AH) {nh ns : Nat} (hW0 : xm_wf nh ns S) (hN0 : xm_nm nh S) {h s row : Nat} (hh : h < 12) (hsn : s < ns) (hrow : row < 1536) (n d t : Int32) : ∀ x, x ≤ ns → ∀ T, T = xa_lp (xm_ht3 h s n) x S → xa_W E mX8_hearsTelling (xa_Z E mX8_hearsTelling xm_L (xa_pV (xm_htS h s row n d t (xa_lp (xm_ht3 h s n) ns S)) xm_R)) 0 0 279 [some (.ref 130), some (.int (nI h)), some (.int (nI s)), some (.int (nI row)), some (.int t), some (.int n), some (.int d), some (.int (nI (32 * h + s))), some (.int (nI x)), none] [] xm_L T xm_R := by
  refine xa_dn (fun x hxl ih => ?_)
  intro T eT
  have hW : xm_wf nh ns T := by rw [eT]; exact xa_lp_inv hW0 (fun i U _ hU => xm_wf_ht3 hU)
  have hN : xm_nm nh T := by rw [eT]; exact xa_lp_inv hN0 (fun i U _ hU => xm_nm_ht3 hU)
  obtain ⟨w1, w2, w3, w4, w5⟩ := id hW
  refine xa_iload (pc := 279) dX8_hearsTelling_279 rfl ?_
  refine xa_aload_n (pc := 281) dX8_hearsTelling_281 rfl ?_
  refine xa_getI (pc := 282) 8 26 lfX8_170 dX8_hearsTelling_282 xm_o rfl rfl ?_
  refine xa_icmpN_ge (pc := 285) 330 x ns dX8_hearsTelling_285 (by decide) rfl w4 (by omega) (by omega) (fun h285 => ?_) (fun h285 => ?_)
  · have g285 : ¬ (x < ns) := by omega
    have ex9 : x = ns := by omega
    subst ex9
    rw [← eT]
    exact xa_fgk (lm_ht330 E T hW hh hsn hrow n d t) (And.intro rfl (And.intro rfl (And.intro rfl (And.intro rfl (And.intro rfl (And.intro rfl (And.intro rfl (And.intro rfl trivial))))))))
  · refine xa_iload (pc := 288) dX8_hearsTelling_288 rfl ?_
    refine xa_iload_n (pc := 290) dX8_hearsTelling_290 rfl ?_
    refine xa_icmpN_eq (pc := 291) 324 x s dX8_hearsTelling_291 (by decide) rfl rfl (by omega) (by omega) (fun h291 => ?_) (fun h291 => ?_)
    · refine xa_iinc (pc := 324) (v := nI (x + 1)) dX8_hearsTelling_324 rfl (by decide) (nI_1 _) ?_
      refine xa_goto (pc := 327) (tgt := 279) dX8_hearsTelling_327 (by decide) ?_
      exact xa_fgk (ih (by omega) _ (by rw [xa_lp, ← eT]; simp [xm_ht3, h285, h291])) (And.intro rfl (And.intro rfl (And.intro rfl (And.intro rfl (And.intro rfl (And.intro rfl (And.intro rfl (And.intro rfl (And.intro rfl trivial)))))))))
    · refine xa_aload_n (pc := 294) dX8_hearsTelling_294 rfl ?_
      refine xa_getA (pc := 295) 8 28 159 lfX8_89 dX8_hearsTelling_295 xm_o rfl rfl rfl ?_
      refine xa_bipush (pc := 298) (v := 32) dX8_hearsTelling_298 (by decide) ?_
      refine xa_iload_n (pc := 300) dX8_hearsTelling_300 rfl ?_
      refine xa_imul (pc := 301) dX8_hearsTelling_301 ?_
      refine xa_iload (pc := 302) dX8_hearsTelling_302 rfl ?_
      refine xa_iadd (pc := 304) dX8_hearsTelling_304 ?_
      refine xa_ialdN (pc := 305) ((32 * h) + x) dX8_hearsTelling_305 xm_159 rfl (xa_pa (xa_pm rfl rfl) rfl) (by show _ < 384; omega) (by decide) ?_
      refine xa_iload (pc := 306) dX8_hearsTelling_306 rfl ?_
      refine xa_icmp_ne (pc := 308) 324 dX8_hearsTelling_308 (by decide) (fun h308 => ?_) (fun h308 => ?_)
      · refine xa_iinc (pc := 324) (v := nI (x + 1)) dX8_hearsTelling_324 rfl (by decide) (nI_1 _) ?_
        refine xa_goto (pc := 327) (tgt := 279) dX8_hearsTelling_327 (by decide) ?_
        exact xa_fgk (ih (by omega) _ (by rw [xa_lp, ← eT]; simp [xm_ht3, h285, h291, h308])) (And.intro rfl (And.intro rfl (And.intro rfl (And.intro rfl (And.intro rfl (And.intro rfl (And.intro rfl (And.intro rfl (And.intro rfl trivial)))))))))
      · refine xa_aload_n (pc := 311) dX8_hearsTelling_311 rfl ?_
        refine xa_getA (pc := 312) 8 27 158 lfX8_86 dX8_hearsTelling_312 xm_o rfl rfl rfl ?_
        refine xa_bipush (pc := 315) (v := 32) dX8_hearsTelling_315 (by decide) ?_
        refine xa_iload_n (pc := 317) dX8_hearsTelling_317 rfl ?_
        refine xa_imul (pc := 318) dX8_hearsTelling_318 ?_
        refine xa_iload (pc := 319) dX8_hearsTelling_319 rfl ?_
        refine xa_iadd (pc := 321) dX8_hearsTelling_321 ?_
        refine xa_iconst (pc := 322) (v := 0) dX8_hearsTelling_322 (by decide) ?_
        refine xa_zastN (pc := 323) ((32 * h) + x) dX8_hearsTelling_323 xm_158 rfl (xa_pa (xa_pm rfl rfl) rfl) (by show _ < 384; omega) (by decide) rfl ?_
        refine xa_iinc (pc := 324) (v := nI (x + 1)) dX8_hearsTelling_324 rfl (by decide) (nI_1 _) ?_
        refine xa_goto (pc := 327) (tgt := 279) dX8_hearsTelling_327 (by decide) ?_
        exact xa_fgk (ih (by omega) _ (by rw [xa_lp, ← eT]; simp [xm_ht3, h285, h291, h308])) (And.intro rfl (And.intro rfl (And.intro rfl (And.intro rfl (And.intro rfl (And.intro rfl (And.intro rfl (And.intro rfl (And.intro rfl trivial)))))))))
set_option maxHeartbeats 4000000 in
theorem lm_ht200 (E : xa_EV) (S : xa_AH) {nh ns : Nat} (hW : xm_wf nh ns S) (hN : xm_nm nh S) {h s row : Nat} (hh : h < 12) (hsn : s < ns) (hrow : row < 1536) (n d t : Int32) : ∀ x, x ≤ ns → (∀ i, i < x → xm_ht2 h s n S i = false) → ∀ T, S = T → xa_W E mX8_hearsTelling (xa_Z E mX8_hearsTelling xm_L (xa_pV (xm_htB ns h s row n d t S) xm_R)) 0 0 200 [some (.ref 130), some (.int (nI h)), some (.int (nI s)), some (.int (nI row)), some (.int t), some (.int n), some (.int d), some (.int (nI (32 * h + s))), some (.int (nI x)), none] [] xm_L T xm_R := by
  refine xa_dn (fun x hxl ih => ?_)
  intro hno T eT
  subst eT
  have eT : S = S := rfl
  obtain ⟨w1, w2, w3, w4, w5⟩ := id hW
  refine xa_iload (pc := 200) dX8_hearsTelling_200 rfl ?_
  refine xa_aload_n (pc := 202) dX8_hearsTelling_202 rfl ?_
  refine xa_getI (pc := 203) 8 26 lfX8_170 dX8_hearsTelling_203 xm_o rfl rfl ?_
  refine xa_icmpN_ge (pc := 206) 276 x ns dX8_hearsTelling_206 (by decide) rfl w4 (by omega) (by omega) (fun h206 => ?_) (fun h206 => ?_)
  · have g206 : ¬ (x < ns) := by omega
    refine xa_iconst (pc := 276) (v := 0) dX8_hearsTelling_276 (by decide) ?_
    refine xa_istore (pc := 277) dX8_hearsTelling_277 (by decide) ?_
    have ex9 : x = ns := by omega
    subst ex9
    rw [xm_htB, xa_any_no.mpr hno]
    exact xa_fgk (lm_ht279 E _ hW hN hh hsn hrow n d t 0 (Nat.zero_le _) _ rfl) (And.intro rfl (And.intro rfl (And.intro rfl (And.intro rfl (And.intro rfl (And.intro rfl (And.intro rfl (And.intro rfl (And.intro rfl trivial)))))))))
  · refine xa_bipush (pc := 209) (v := 32) dX8_hearsTelling_209 (by decide) ?_
    refine xa_iload_n (pc := 211) dX8_hearsTelling_211 rfl ?_
    refine xa_imul (pc := 212) dX8_hearsTelling_212 ?_
    refine xa_iload (pc := 213) dX8_hearsTelling_213 rfl ?_
    refine xa_iadd (pc := 215) dX8_hearsTelling_215 ?_
    refine xa_istore (pc := 216) dX8_hearsTelling_216 (by decide) ?_
    refine xa_iload (pc := 218) dX8_hearsTelling_218 rfl ?_
    refine xa_iload_n (pc := 220) dX8_hearsTelling_220 rfl ?_
    refine xa_icmpN_eq (pc := 221) 270 x s dX8_hearsTelling_221 (by decide) rfl rfl (by omega) (by omega) (fun h221 => ?_) (fun h221 => ?_)
    · refine xa_iinc (pc := 270) (v := nI (x + 1)) dX8_hearsTelling_270 rfl (by decide) (nI_1 _) ?_
      refine xa_goto (pc := 273) (tgt := 200) dX8_hearsTelling_273 (by decide) ?_
      exact xa_fgk (ih (by omega) (xa_no_s hno (by simp [xm_ht2, h206, h221])) _ rfl) (And.intro rfl (And.intro rfl (And.intro rfl (And.intro rfl (And.intro rfl (And.intro rfl (And.intro rfl (And.intro rfl (And.intro rfl trivial)))))))))
    · refine xa_aload_n (pc := 224) dX8_hearsTelling_224 rfl ?_
      refine xa_getA (pc := 225) 8 27 158 lfX8_86 dX8_hearsTelling_225 xm_o rfl rfl rfl ?_
      refine xa_iload (pc := 228) dX8_hearsTelling_228 rfl ?_
      refine xa_zaldN (pc := 230) ((32 * h) + x) dX8_hearsTelling_230 xm_158 rfl (xa_pa (xa_pm rfl rfl) rfl) (by show _ < 384; omega) (by decide) ?_
      refine xa_if_eq (pc := 231) 270 dX8_hearsTelling_231 (by decide) (fun h231 => ?_) (fun h231 => ?_)
      · refine xa_iinc (pc := 270) (v := nI (x + 1)) dX8_hearsTelling_270 rfl (by decide) (nI_1 _) ?_
        refine xa_goto (pc := 273) (tgt := 200) dX8_hearsTelling_273 (by decide) ?_
        exact xa_fgk (ih (by omega) (xa_no_s hno (by simp [xm_ht2, h206, h221, h231])) _ rfl) (And.intro rfl (And.intro rfl (And.intro rfl (And.intro rfl (And.intro rfl (And.intro rfl (And.intro rfl (And.intro rfl (And.intro rfl trivial)))))))))
      · refine xa_aload_n (pc := 234) dX8_hearsTelling_234 rfl ?_
        refine xa_getA (pc := 235) 8 28 159 lfX8_89 dX8_hearsTelling_235 xm_o rfl rfl rfl ?_
        refine xa_iload (pc := 238) dX8_hearsTelling_238 rfl ?_
        refine xa_ialdN (pc := 240) ((32 * h) + x) dX8_hearsTelling_240 xm_159 rfl (xa_pa (xa_pm rfl rfl) rfl) (by show _ < 384; omega) (by decide) ?_
        refine xa_iload (pc := 241) dX8_hearsTelling_241 rfl ?_
        refine xa_icmp_ne (pc := 243) 270 dX8_hearsTelling_243 (by decide) (fun h243 => ?_) (fun h243 => ?_)
        · refine xa_iinc (pc := 270) (v := nI (x + 1)) dX8_hearsTelling_270 rfl (by decide) (nI_1 _) ?_
          refine xa_goto (pc := 273) (tgt := 200) dX8_hearsTelling_273 (by decide) ?_
          exact xa_fgk (ih (by omega) (xa_no_s hno (by simp [xm_ht2, h206, h221, h231, h243])) _ rfl) (And.intro rfl (And.intro rfl (And.intro rfl (And.intro rfl (And.intro rfl (And.intro rfl (And.intro rfl (And.intro rfl (And.intro rfl trivial)))))))))
        · refine xa_aload_n (pc := 246) dX8_hearsTelling_246 rfl ?_
          refine xa_iload (pc := 247) dX8_hearsTelling_247 rfl ?_
          refine xa_iload_n (pc := 249) dX8_hearsTelling_249 rfl ?_
          refine xa_callV (pc := 250) xm_o rfl rfl lcX8_305 dX8_hearsTelling_250 (cm_isStronger E _ hW rfl rfl (by omega) (by omega)) rfl rfl (by decide) (Nat.le_of_ble_eq_true rfl) (by decide) ?_
          rintro _ _ _ ⟨rfl, rfl, rfl⟩
          refine xa_if_ne (pc := 253) 259 dX8_hearsTelling_253 (by decide) (fun h253 => ?_) (fun h253 => ?_)
          · have h253 := xa_b_n0.mp h253
            refine xa_aload_n (pc := 259) dX8_hearsTelling_259 rfl ?_
            refine xa_dup (pc := 260) dX8_hearsTelling_260 rfl ?_
            refine xa_getI (pc := 261) 8 41 lfX8_314 dX8_hearsTelling_261 xm_o rfl rfl ?_
            refine xa_iconst (pc := 264) (v := 1) dX8_hearsTelling_264 (by decide) ?_
            refine xa_iadd (pc := 265) dX8_hearsTelling_265 ?_
            refine xa_putI (pc := 266) 8 41 lpX8_314 dX8_hearsTelling_266 xm_o rfl rfl rfl rfl ?_
            skip
            rw [xm_htB, xa_any_yes (p := xm_ht2 h s n S) (i := x) (by omega) (by simp [xm_ht2, h206, h221, h231, h243, h253])]
            exact xa_vret dX8_hearsTelling_269 rfl ⟨rfl, rfl, rfl⟩
          · have h253 := xa_b_0.mp h253
            refine xa_goto (pc := 256) (tgt := 270) dX8_hearsTelling_256 (by decide) ?_
            refine xa_iinc (pc := 270) (v := nI (x + 1)) dX8_hearsTelling_270 rfl (by decide) (nI_1 _) ?_
            refine xa_goto (pc := 273) (tgt := 200) dX8_hearsTelling_273 (by decide) ?_
            exact xa_fgk (ih (by omega) (xa_no_s hno (by simp [xm_ht2, h206, h221, h231, h243, h253])) _ rfl) (And.intro rfl (And.intro rfl (And.intro rfl (And.intro rfl (And.intro rfl (And.intro rfl (And.intro rfl (And.intro rfl (And.intro rfl trivial)))))))))
