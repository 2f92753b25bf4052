set_option maxHeartbeats 4000000 in
theorem lm_ot143 (E : xa_EV) (S : xa_AH) {nh ns : Nat} (Z : xa_ZC) (t : Int32) {h : Nat} (hh : h < 12) (hI0 : xm_wi nh ns S) (K : xa_W E mX8_oneTick Z 0 0 186 [some (.ref 130), some (.int t), some (.int (nI h)), none] [] xm_L (xa_lp (xm_fg1 h (t + 1)) ns S) xm_R) : ∀ x, x ≤ ns → ∀ T, T = xa_lp (xm_fg1 h (t + 1)) x S → xa_W E mX8_oneTick Z 0 0 143 [some (.ref 130), some (.int t), some (.int (nI h)), some (.int (nI x))] [] xm_L T xm_R := by
  refine xa_dn (fun x hxl ih => ?_)
  intro T eT 
  have hI : xm_wi nh ns T := by rw [eT]; exact wi_fg hI0
  have hW := hI.1
  have hN := hI.2.1
  obtain ⟨w1, w2, w3, w4, w5⟩ := id hW
  refine xa_iload_n (pc := 143) dX8_oneTick_143 rfl ?_
  refine xa_aload_n (pc := 144) dX8_oneTick_144 rfl ?_
  refine xa_getI (pc := 145) 8 26 lfX8_170 dX8_oneTick_145 xm_o rfl rfl ?_
  refine xa_icmpN_ge (pc := 148) 186 x ns dX8_oneTick_148 (by decide) rfl w4 (by omega) (by omega) (fun h148 => ?_) (fun h148 => ?_)
  · have g148 : ¬ (x < ns) := by omega
    have ex9 : x = ns := by omega
    subst ex9
    rw [← eT] at K
    exact xa_fgk (K) (And.intro rfl (And.intro rfl (And.intro rfl trivial)))
  · refine xa_aload_n (pc := 151) dX8_oneTick_151 rfl ?_
    refine xa_getA (pc := 152) 8 31 162 lfX8_98 dX8_oneTick_152 xm_o rfl rfl rfl ?_
    refine xa_bipush (pc := 155) (v := 32) dX8_oneTick_155 (by decide) ?_
    refine xa_iload_n (pc := 157) dX8_oneTick_157 rfl ?_
    refine xa_imul (pc := 158) dX8_oneTick_158 ?_
    refine xa_iload_n (pc := 159) dX8_oneTick_159 rfl ?_
    refine xa_iadd (pc := 160) dX8_oneTick_160 ?_
    refine xa_ialdN (pc := 161) ((32 * h) + x) dX8_oneTick_161 xm_162 rfl (xa_pa (xa_pm rfl rfl) rfl) (by show _ < 384; omega) (by decide) ?_
    refine xa_iload_n (pc := 162) dX8_oneTick_162 rfl ?_
    refine xa_iconst (pc := 163) (v := 1) dX8_oneTick_163 (by decide) ?_
    refine xa_iadd (pc := 164) dX8_oneTick_164 ?_
    refine xa_icmp_gt (pc := 165) 180 dX8_oneTick_165 (by decide) (fun h165 => ?_) (fun h165 => ?_)
    · refine xa_iinc (pc := 180) (v := nI (x + 1)) dX8_oneTick_180 rfl (by decide) (nI_1 _) ?_
      refine xa_goto (pc := 183) (tgt := 143) dX8_oneTick_183 (by decide) ?_
      exact xa_fgk (ih (by omega) _ (by rw [xa_lp, ← eT]; simp [xm_fg1, Int32.not_le.mpr h165] <;> rfl)) (And.intro rfl (And.intro rfl (And.intro rfl (And.intro rfl trivial))))
    · refine xa_aload_n (pc := 168) dX8_oneTick_168 rfl ?_
      refine xa_getA (pc := 169) 8 27 158 lfX8_86 dX8_oneTick_169 xm_o rfl rfl rfl ?_
      refine xa_bipush (pc := 172) (v := 32) dX8_oneTick_172 (by decide) ?_
      refine xa_iload_n (pc := 174) dX8_oneTick_174 rfl ?_
      refine xa_imul (pc := 175) dX8_oneTick_175 ?_
      refine xa_iload_n (pc := 176) dX8_oneTick_176 rfl ?_
      refine xa_iadd (pc := 177) dX8_oneTick_177 ?_
      refine xa_iconst (pc := 178) (v := 0) dX8_oneTick_178 (by decide) ?_
      refine xa_zastN (pc := 179) ((32 * h) + x) dX8_oneTick_179 xm_158 rfl (xa_pa (xa_pm rfl rfl) rfl) (by show _ < 384; omega) (by decide) rfl ?_
      refine xa_iinc (pc := 180) (v := nI (x + 1)) dX8_oneTick_180 rfl (by decide) (nI_1 _) ?_
      refine xa_goto (pc := 183) (tgt := 143) dX8_oneTick_183 (by decide) ?_
      exact xa_fgk (ih (by omega) _ (by rw [xa_lp, ← eT]; simp [xm_fg1, Int32.not_lt.mp h165] <;> rfl)) (And.intro rfl (And.intro rfl (And.intro rfl (And.intro rfl trivial))))
set_option maxHeartbeats 4000000 in
theorem lm_ot133 (E : xa_EV) (S : xa_AH) {nh ns : Nat} (t : Int32) (hI0 : xm_wi nh ns S) : ∀ x, x ≤ nh → ∀ T, T = xa_lp (xm_fgH ns (t + 1)) x S → xa_W E mX8_oneTick (xa_Z E mX8_oneTick xm_L (xa_pV (xa_up (xa_lp (xm_fgH ns (t + 1)) nh S) 130 36 (t + 1)) xm_R)) 0 0 133 [some (.ref 130), some (.int t), some (.int (nI x)), none] [] xm_L T xm_R := by
  refine xa_dn (fun x hxl ih => ?_)
  intro T eT 
  have hI : xm_wi nh ns T := by rw [eT]; exact xa_lp_inv hI0 (fun i U _ hU => wi_fg hU)
  have hW := hI.1
  have hN := hI.2.1
  obtain ⟨w1, w2, w3, w4, w5⟩ := id hW
  refine xa_iload_n (pc := 133) dX8_oneTick_133 rfl ?_
  refine xa_aload_n (pc := 134) dX8_oneTick_134 rfl ?_
  refine xa_getI (pc := 135) 8 14 lfX8_155 dX8_oneTick_135 xm_o rfl rfl ?_
  refine xa_icmpN_ge (pc := 138) 192 x nh dX8_oneTick_138 (by decide) rfl w3 (by omega) (by omega) (fun h138 => ?_) (fun h138 => ?_)
  · have g138 : ¬ (x < nh) := by omega
    refine xa_aload_n (pc := 192) dX8_oneTick_192 rfl ?_
    refine xa_iload_n (pc := 193) dX8_oneTick_193 rfl ?_
    refine xa_iconst (pc := 194) (v := 1) dX8_oneTick_194 (by decide) ?_
    refine xa_iadd (pc := 195) dX8_oneTick_195 ?_
    refine xa_putI (pc := 196) 8 36 lpX8_191 dX8_oneTick_196 xm_o rfl rfl rfl rfl ?_
    have ex9 : x = nh := by omega
    subst ex9
    exact xa_vret dX8_oneTick_199 rfl ⟨rfl, by rw [← eT], rfl⟩
  · refine xa_iconst (pc := 141) (v := 0) dX8_oneTick_141 (by decide) ?_
    refine xa_istore_n (pc := 142) dX8_oneTick_142 (by decide) ?_
    refine xa_fgk (lm_ot143 E T _ t (h := x) (by omega) hI ?_ 0 (Nat.zero_le _) _ rfl) (And.intro rfl (And.intro rfl (And.intro rfl (And.intro rfl trivial))))
    refine xa_iinc (pc := 186) (v := nI (x + 1)) dX8_oneTick_186 rfl (by decide) (nI_1 _) ?_
    refine xa_goto (pc := 189) (tgt := 133) dX8_oneTick_189 (by decide) ?_
    exact xa_fgk (ih (by omega) _ (by rw [xa_lp, ← eT]; rfl)) (And.intro rfl (And.intro rfl (And.intro rfl trivial)))
set_option maxHeartbeats 4000000 in
theorem lm_ot111 (E : xa_EV) (S : xa_AH) {nh ns : Nat} (t : Int32) {wr : Nat} (hwl : wr ≤ 24) (hwr0 : S 130 47 = nI wr) (hwv : ∀ l, l < wr → vp_in (S 176 l) 12) (hI0 : xm_wi nh ns S) : ∀ x, x ≤ wr → ∀ T, T = xa_lp (fun l V => xm_ih nh ns l t V) x S → xa_W E mX8_oneTick (xa_Z E mX8_oneTick xm_L (xa_pV (xa_up (xa_lp (xm_fgH ns (t + 1)) nh (xa_lp (fun l V => xm_ih nh ns l t V) wr S)) 130 36 (t + 1)) xm_R)) 0 0 111 [some (.ref 130), some (.int t), some (.int (nI x)), none] [] xm_L T xm_R := by
  refine xa_dn (fun x hxl ih => ?_)
  intro T eT 
  have hI : xm_wi nh ns T := by rw [eT]; exact xa_lp_inv hI0 (fun i U _ hU => wi_ih hU)
  have hwr : T 130 47 = nI wr := by rw [eT, lp_k (fun i U => ih_47)]; exact hwr0
  have hW := hI.1
  have hN := hI.2.1
  obtain ⟨w1, w2, w3, w4, w5⟩ := id hW
  refine xa_iload_n (pc := 111) dX8_oneTick_111 rfl ?_
  refine xa_aload_n (pc := 112) dX8_oneTick_112 rfl ?_
  refine xa_getI (pc := 113) 8 47 lfX8_225 dX8_oneTick_113 xm_o rfl rfl ?_
  refine xa_icmpN_ge (pc := 116) 131 x wr dX8_oneTick_116 (by decide) rfl hwr (by omega) (by omega) (fun h116 => ?_) (fun h116 => ?_)
  · have g116 : ¬ (x < wr) := by omega
    refine xa_iconst (pc := 131) (v := 0) dX8_oneTick_131 (by decide) ?_
    refine xa_istore_n (pc := 132) dX8_oneTick_132 (by decide) ?_
    have ex9 : x = wr := by omega
    subst ex9
    rw [← eT]
    exact xa_fgk (lm_ot133 E T t hI 0 (Nat.zero_le _) _ rfl) (And.intro rfl (And.intro rfl (And.intro rfl trivial)))
  · refine xa_aload_n (pc := 119) dX8_oneTick_119 rfl ?_
    refine xa_iload_n (pc := 120) dX8_oneTick_120 rfl ?_
    refine xa_iload_n (pc := 121) dX8_oneTick_121 rfl ?_
    refine xa_callV (pc := 122) xm_o rfl rfl lcX8_247 dX8_oneTick_122 (cm_isHeard E _ hW hN (l := x) rfl (by omega) (xa_in_lt (hwv x (by omega))) (by rw [show T 176 = S 176 by rw [eT, lp_a (fun i U => ih_17x (by decide) (by decide))]]; exact xa_in_eq (hwv x (by omega))) _) rfl rfl (by decide) (Nat.le_of_ble_eq_true rfl) (by decide) ?_
    rintro _ _ _ ⟨rfl, rfl, rfl⟩
    refine xa_iinc (pc := 125) (v := nI (x + 1)) dX8_oneTick_125 rfl (by decide) (nI_1 _) ?_
    refine xa_goto (pc := 128) (tgt := 111) dX8_oneTick_128 (by decide) ?_
    exact xa_fgk (ih (by omega) _ (by rw [xa_lp, ← eT])) (And.intro rfl (And.intro rfl (And.intro rfl trivial)))
set_option maxHeartbeats 4000000 in
theorem lm_ot79 (E : xa_EV) (S : xa_AH) {nh ns : Nat} (t : Int32) : ∀ x, x ≤ nh → ∀ T, T = xa_lp (xm_wa1 ns t) x S → xm_wv nh ns (2 * x) T → xa_W E mX8_oneTick (xa_Z E mX8_oneTick xm_L (xa_pV (xa_up (xa_lp (xm_fgH ns (t + 1)) nh (xa_lp (fun l V => xm_ih nh ns l t V) (xc ((xa_lp (xm_wa1 ns t) nh S) 130 47)) (xa_lp (xm_wa1 ns t) nh S))) 130 36 (t + 1)) xm_R)) 0 0 79 [some (.ref 130), some (.int t), some (.int (nI x)), none] [] xm_L T xm_R := by
  refine xa_dn (fun x hxl ih => ?_)
  intro T eT hV
  obtain ⟨hI, wr, hwr, hw2, hwv⟩ := id hV
  have n12 := hI.1.1
  have hW := hI.1
  have hN := hI.2.1
  obtain ⟨w1, w2, w3, w4, w5⟩ := id hW
  refine xa_iload_n (pc := 79) dX8_oneTick_79 rfl ?_
  refine xa_aload_n (pc := 80) dX8_oneTick_80 rfl ?_
  refine xa_getI (pc := 81) 8 14 lfX8_155 dX8_oneTick_81 xm_o rfl rfl ?_
  refine xa_icmpN_ge (pc := 84) 109 x nh dX8_oneTick_84 (by decide) rfl w3 (by omega) (by omega) (fun h84 => ?_) (fun h84 => ?_)
  · have g84 : ¬ (x < nh) := by omega
    refine xa_iconst (pc := 109) (v := 0) dX8_oneTick_109 (by decide) ?_
    refine xa_istore_n (pc := 110) dX8_oneTick_110 (by decide) ?_
    have ex9 : x = nh := by omega
    subst ex9
    rw [← eT, show xc (T 130 47) = wr by rw [hwr]; exact xc_n (by omega)]
    exact xa_fgk (lm_ot111 E T t (by omega) hwr hwv hI 0 (Nat.zero_le _) _ rfl) (And.intro rfl (And.intro rfl (And.intro rfl trivial)))
  · refine xa_aload_n (pc := 87) dX8_oneTick_87 rfl ?_
    refine xa_getA (pc := 88) 8 5 136 lfX8_25 dX8_oneTick_88 xm_o rfl rfl rfl ?_
    refine xa_iload_n (pc := 91) dX8_oneTick_91 rfl ?_
    refine xa_ialdN (pc := 92) x dX8_oneTick_92 xm_136 rfl rfl (by show _ < 12; omega) (by decide) ?_
    refine xa_iconst (pc := 93) (v := 2) dX8_oneTick_93 (by decide) ?_
    refine xa_icmp_ne (pc := 94) 103 dX8_oneTick_94 (by decide) (fun h94 => ?_) (fun h94 => ?_)
    · refine xa_iinc (pc := 103) (v := nI (x + 1)) dX8_oneTick_103 rfl (by decide) (nI_1 _) ?_
      refine xa_goto (pc := 106) (tgt := 79) dX8_oneTick_106 (by decide) ?_
      exact xa_fgk (ih (by omega) _ (by rw [xa_lp, ← eT]; simp [xm_wa1, h94]) (by have z := wv_wa1 (t := t) hV (by omega : x < 12); simpa [xm_wa1, h94] using z)) (And.intro rfl (And.intro rfl (And.intro rfl trivial)))
    · refine xa_aload_n (pc := 97) dX8_oneTick_97 rfl ?_
      refine xa_iload_n (pc := 98) dX8_oneTick_98 rfl ?_
      refine xa_iload_n (pc := 99) dX8_oneTick_99 rfl ?_
      refine xa_callV (pc := 100) xm_o rfl rfl lcX8_243 dX8_oneTick_100 (cm_writesAll E _ hV hwr hw2 rfl (by omega) _) rfl rfl (by decide) (Nat.le_of_ble_eq_true rfl) (by decide) ?_
      rintro _ _ _ ⟨rfl, rfl, rfl⟩
      refine xa_iinc (pc := 103) (v := nI (x + 1)) dX8_oneTick_103 rfl (by decide) (nI_1 _) ?_
      refine xa_goto (pc := 106) (tgt := 79) dX8_oneTick_106 (by decide) ?_
      exact xa_fgk (ih (by omega) _ (by rw [xa_lp, ← eT]; simp [xm_wa1, h94]) (by have z := wv_wa1 (t := t) hV (by omega : x < 12); simpa [xm_wa1, h94] using z)) (And.intro rfl (And.intro rfl (And.intro rfl trivial)))
set_option maxHeartbeats 4000000 in
theorem lm_ot2 (E : xa_EV) (S : xa_AH) {nh ns : Nat} (t : Int32) (hI0 : xm_wi nh ns S) : ∀ x, x ≤ ns → ∀ T, T = xa_lp (xm_hd1 t) x S → xa_W E mX8_oneTick (xa_Z E mX8_oneTick xm_L (xa_pV (xm_one nh ns t S) xm_R)) 0 0 2 [some (.ref 130), some (.int t), some (.int (nI x)), none] [] xm_L T xm_R := by
  refine xa_dn (fun x hxl ih => ?_)
  intro T eT 
  have hI : xm_wi nh ns T := by rw [eT]; exact wi_hd hI0
  have hW := hI.1
  have hN := hI.2.1
  obtain ⟨w1, w2, w3, w4, w5⟩ := id hW
  refine xa_iload_n (pc := 2) dX8_oneTick_2 rfl ?_
  refine xa_aload_n (pc := 3) dX8_oneTick_3 rfl ?_
  refine xa_getI (pc := 4) 8 26 lfX8_170 dX8_oneTick_4 xm_o rfl rfl ?_
  refine xa_icmpN_ge (pc := 7) 67 x ns dX8_oneTick_7 (by decide) rfl w4 (by omega) (by omega) (fun h7 => ?_) (fun h7 => ?_)
  · have g7 : ¬ (x < ns) := by omega
    refine xa_aload_n (pc := 67) dX8_oneTick_67 rfl ?_
    refine xa_iconst (pc := 68) (v := 0) dX8_oneTick_68 (by decide) ?_
    refine xa_putI (pc := 69) 8 47 lpX8_225 dX8_oneTick_69 xm_o rfl rfl rfl rfl ?_
    refine xa_aload_n (pc := 72) dX8_oneTick_72 rfl ?_
    refine xa_iconst (pc := 73) (v := 0) dX8_oneTick_73 (by decide) ?_
    refine xa_putI (pc := 74) 8 43 lpX8_234 dX8_oneTick_74 xm_o rfl rfl rfl rfl ?_
    refine xa_iconst (pc := 77) (v := 0) dX8_oneTick_77 (by decide) ?_
    refine xa_istore_n (pc := 78) dX8_oneTick_78 (by decide) ?_
    have ex9 : x = ns := by omega
    subst ex9
    show xa_W E _ (xa_Z E mX8_oneTick xm_L (xa_pV (xm_one nh x t S) xm_R)) 0 0 79 _ _ _ _ _
    unfold xm_one
    rw [← eT]
    exact xa_fgk (lm_ot79 E _ t 0 (Nat.zero_le _) _ rfl ⟨wi_up (wi_up hI rfl rfl (Or.inl (by decide))) rfl rfl (Or.inl (by decide)), 0, by rw [up_k (by decide), up_s]; rfl, by omega, fun l hl => absurd hl (Nat.not_lt_zero l)⟩) (And.intro rfl (And.intro rfl (And.intro rfl trivial)))
  · refine xa_aload_n (pc := 10) dX8_oneTick_10 rfl ?_
    refine xa_getA (pc := 11) 8 20 151 lfX8_68 dX8_oneTick_11 xm_o rfl rfl rfl ?_
    refine xa_iload_n (pc := 14) dX8_oneTick_14 rfl ?_
    refine xa_ialdN (pc := 15) x dX8_oneTick_15 xm_151 rfl rfl (by show _ < 32; omega) (by decide) ?_
    refine xa_iconst (pc := 16) (v := 1) dX8_oneTick_16 (by decide) ?_
    refine xa_icmp_ne (pc := 17) 61 dX8_oneTick_17 (by decide) (fun h17 => ?_) (fun h17 => ?_)
    · refine xa_iinc (pc := 61) (v := nI (x + 1)) dX8_oneTick_61 rfl (by decide) (nI_1 _) ?_
      refine xa_goto (pc := 64) (tgt := 2) dX8_oneTick_64 (by decide) ?_
      exact xa_fgk (ih (by omega) _ (by rw [xa_lp, ← eT]; simp [xm_hd1, h17] <;> rfl)) (And.intro rfl (And.intro rfl (And.intro rfl trivial)))
    · refine xa_aload_n (pc := 20) dX8_oneTick_20 rfl ?_
      refine xa_getA (pc := 21) 8 21 152 lfX8_71 dX8_oneTick_21 xm_o rfl rfl rfl ?_
      refine xa_iload_n (pc := 24) dX8_oneTick_24 rfl ?_
      refine xa_ialdN (pc := 25) x dX8_oneTick_25 xm_152 rfl rfl (by show _ < 32; omega) (by decide) ?_
      refine xa_if_gt (pc := 26) 61 dX8_oneTick_26 (by decide) (fun h26 => ?_) (fun h26 => ?_)
      · refine xa_iinc (pc := 61) (v := nI (x + 1)) dX8_oneTick_61 rfl (by decide) (nI_1 _) ?_
        refine xa_goto (pc := 64) (tgt := 2) dX8_oneTick_64 (by decide) ?_
        exact xa_fgk (ih (by omega) _ (by rw [xa_lp, ← eT]; simp [xm_hd1, h17, h26] <;> rfl)) (And.intro rfl (And.intro rfl (And.intro rfl trivial)))
      · refine xa_aload_n (pc := 29) dX8_oneTick_29 rfl ?_
        refine xa_getA (pc := 30) 8 5 136 lfX8_25 dX8_oneTick_30 xm_o rfl rfl rfl ?_
        have hbo : xc (T 146 x) < nh := xa_in_lt (w5 x (by omega))
        refine xa_aload_n (pc := 33) dX8_oneTick_33 rfl ?_
        refine xa_getA (pc := 34) 8 15 146 lfX8_53 dX8_oneTick_34 xm_o rfl rfl rfl ?_
        refine xa_iload_n (pc := 37) dX8_oneTick_37 rfl ?_
        refine xa_ialdN (pc := 38) x dX8_oneTick_38 xm_146 rfl rfl (by show _ < 32; omega) (by decide) ?_
        refine xa_ialdN (pc := 39) (xc (T 146 x)) dX8_oneTick_39 xm_136 rfl (xa_in_eq (w5 x (by omega))) (by show _ < 12; omega) (by decide) ?_
        refine xa_iconst (pc := 40) (v := 2) dX8_oneTick_40 (by decide) ?_
        refine xa_icmp_eq (pc := 41) 47 dX8_oneTick_41 (by decide) (fun h41 => ?_) (fun h41 => ?_)
        · refine xa_aload_n (pc := 47) dX8_oneTick_47 rfl ?_
          refine xa_getA (pc := 48) 8 20 151 lfX8_68 dX8_oneTick_48 xm_o rfl rfl rfl ?_
          refine xa_iload_n (pc := 51) dX8_oneTick_51 rfl ?_
          refine xa_iconst (pc := 52) (v := 2) dX8_oneTick_52 (by decide) ?_
          refine xa_iastN (pc := 53) x dX8_oneTick_53 xm_151 rfl rfl (by show _ < 32; omega) (by decide) ?_
          refine xa_aload_n (pc := 54) dX8_oneTick_54 rfl ?_
          refine xa_getA (pc := 55) 8 22 153 lfX8_74 dX8_oneTick_55 xm_o rfl rfl rfl ?_
          refine xa_iload_n (pc := 58) dX8_oneTick_58 rfl ?_
          refine xa_iload_n (pc := 59) dX8_oneTick_59 rfl ?_
          refine xa_iastN (pc := 60) x dX8_oneTick_60 xm_153 rfl rfl (by show _ < 32; omega) (by decide) ?_
          refine xa_iinc (pc := 61) (v := nI (x + 1)) dX8_oneTick_61 rfl (by decide) (nI_1 _) ?_
          refine xa_goto (pc := 64) (tgt := 2) dX8_oneTick_64 (by decide) ?_
          exact xa_fgk (ih (by omega) _ (by rw [xa_lp, ← eT]; simp [xm_hd1, h17, h26, h41, Int32.not_lt.mp h26] <;> rfl)) (And.intro rfl (And.intro rfl (And.intro rfl trivial)))
        · refine xa_goto (pc := 44) (tgt := 61) dX8_oneTick_44 (by decide) ?_
          refine xa_iinc (pc := 61) (v := nI (x + 1)) dX8_oneTick_61 rfl (by decide) (nI_1 _) ?_
          refine xa_goto (pc := 64) (tgt := 2) dX8_oneTick_64 (by decide) ?_
          exact xa_fgk (ih (by omega) _ (by rw [xa_lp, ← eT]; simp [xm_hd1, h17, h26, h41, Int32.not_lt.mp h26] <;> rfl)) (And.intro rfl (And.intro rfl (And.intro rfl trivial)))
set_option maxHeartbeats 4000000 in
theorem cm_oneTick (E : xa_EV) (S : xa_AH) {nh ns : Nat} (hI : xm_wi nh ns S) (t : Int32) : xa_Ct E mX8_oneTick [.ref 130, .int t] xm_L S xm_R (xa_pV (xm_one nh ns t S) xm_R) := by
  refine xa_Ct.of [some (.ref 130), some (.int t), none, none] rfl (Nat.le_of_ble_eq_true rfl) (by simp [Value.category]) rfl ?_
  refine xa_iconst (pc := 0) (v := 0) dX8_oneTick_0 (by decide) ?_
  refine xa_istore_n (pc := 1) dX8_oneTick_1 (by decide) ?_
  exact xa_fgk (lm_ot2 E S t hI 0 (Nat.zero_le _) _ rfl) (And.intro rfl (And.intro rfl (And.intro rfl trivial)))
theorem wv_lp {nh ns : Nat} {t : Int32} {S : xa_AH} (g : xm_wv nh ns 0 S) : ∀ x, x ≤ 12 → xm_wv nh ns (2 * x) (xa_lp (xm_wa1 ns t) x S)
  | 0, _ => g
  | x + 1, hx => by rw [xa_lp]; exact wv_wa1 (wv_lp g x (by omega)) (by omega)
theorem wi_one {nh ns : Nat} {t : Int32} {S : xa_AH} (g : xm_wi nh ns S) : xm_wi nh ns (xm_one nh ns t S) := by
  unfold xm_one
  have n12 := g.1.1
  have q : xm_wv nh ns 0 (xa_up (xa_up (xa_lp (xm_hd1 t) ns S) 130 47 0) 130 43 0) := ⟨wi_up (wi_up (wi_hd g) rfl rfl (Or.inl (by decide))) rfl rfl (Or.inl (by decide)), 0, by rw [up_k (by decide), up_s]; rfl, by omega, fun l hl => absurd hl (Nat.not_lt_zero l)⟩
  have z := wv_lp (t := t) q nh n12
  exact wi_up (xa_lp_inv (xa_lp_inv z.1 (fun i U _ hU => wi_ih hU)) (fun i U _ hU => wi_fg hU)) rfl rfl (Or.inl (by decide))
theorem wi_tks {nh ns n : Nat} {S : xa_AH} (g : xm_wi nh ns S) : xm_wi nh ns (xm_tks nh ns n S) := xa_lp_inv g (fun i U _ hU => wi_one hU)
set_option maxHeartbeats 4000000 in
theorem lm_ti26 (E : xa_EV) (S : xa_AH) {nh ns : Nat} {N : Nat} (hNn : N ≤ 50) (hI0 : xm_wi nh ns S) : ∀ x, x ≤ N → ∀ T, T = xa_lp (fun _ V => xm_one nh ns (V 130 36) V) x S → xa_W E mX8_tick (xa_Z E mX8_tick xm_L (xa_pR (.int (xm_tks nh ns N S 130 36)) (xm_tks nh ns N S) xm_R)) 0 0 26 [some (.ref 130), some (.int (nI N)), some (.int (nI x))] [] xm_L T xm_R := by
  refine xa_dn (fun x hxl ih => ?_)
  intro T eT 
  have hI : xm_wi nh ns T := by rw [eT]; exact wi_tks hI0
  have hW := hI.1
  have hN := hI.2.1
  obtain ⟨w1, w2, w3, w4, w5⟩ := id hW
  refine xa_iload_n (pc := 26) dX8_tick_26 rfl ?_
  refine xa_iload_n (pc := 27) dX8_tick_27 rfl ?_
  refine xa_icmpN_ge (pc := 28) 45 x N dX8_tick_28 (by decide) rfl rfl (by omega) (by omega) (fun h28 => ?_) (fun h28 => ?_)
  · have g28 : ¬ (x < N) := by omega
    refine xa_aload_n (pc := 45) dX8_tick_45 rfl ?_
    refine xa_getI (pc := 46) 8 36 lfX8_191 dX8_tick_46 xm_o rfl rfl ?_
    have ex9 : x = N := by omega
    subst ex9
    exact xa_zret dX8_tick_49 rfl rfl ⟨by rw [xm_tks, ← eT], by rw [xm_tks, ← eT], rfl⟩
  · refine xa_aload_n (pc := 31) dX8_tick_31 rfl ?_
    refine xa_aload_n (pc := 32) dX8_tick_32 rfl ?_
    refine xa_getI (pc := 33) 8 36 lfX8_191 dX8_tick_33 xm_o rfl rfl ?_
    refine xa_callV (pc := 36) xm_o rfl rfl lcX8_240 dX8_tick_36 (cm_oneTick E _ hI _) rfl rfl (by decide) (Nat.le_of_ble_eq_true rfl) (by decide) ?_
    rintro _ _ _ ⟨rfl, rfl, rfl⟩
    refine xa_iinc (pc := 39) (v := nI (x + 1)) dX8_tick_39 rfl (by decide) (nI_1 _) ?_
    refine xa_goto (pc := 42) (tgt := 26) dX8_tick_42 (by decide) ?_
    exact xa_fgk (ih (by omega) _ (by rw [xa_lp, ← eT])) (And.intro rfl (And.intro rfl (And.intro rfl trivial)))
set_option maxHeartbeats 4000000 in
theorem cm_tick (E : xa_EV) (S : xa_AH) {nh ns : Nat} (hI : xm_wi nh ns S) (n : Int32) : xa_Ct E mX8_tick [.ref 130, .int n] xm_L S xm_R (xa_pR (.int (xm_tick nh ns S n).1) (xm_tick nh ns S n).2 xm_R) := by
  refine xa_Ct.of [some (.ref 130), some (.int n), none] rfl (Nat.le_of_ble_eq_true rfl) (by simp [Value.category]) rfl ?_
  have hW := hI.1
  refine xa_iload_n (pc := 0) dX8_tick_0 rfl ?_
  refine xa_iconst (pc := 1) (v := 1) dX8_tick_1 (by decide) ?_
  refine xa_bipush (pc := 2) (v := 50) dX8_tick_2 (by decide) ?_
  refine xa_callS (pc := 4) lcX8_159 dX8_tick_4 (cm_in E _ _ _ _ _ _) rfl rfl (by decide) (Nat.le_of_ble_eq_true rfl) (by decide) ?_
  rintro _ _ _ ⟨rfl, rfl, rfl⟩
  refine xa_if_eq (pc := 7) 22 dX8_tick_7 (by decide) (fun h7 => ?_) (fun h7 => ?_)
  · have h7 := xa_b_0.mp h7
    refine xa_iconst (pc := 22) (v := (-1)) dX8_tick_22 (by decide) ?_
    rw [show xm_tick nh ns S n = _ from if_neg (by simp [xm_tko, h7])]
    exact xa_zret dX8_tick_23 rfl rfl ⟨rfl, rfl, rfl⟩
  · have h7 := xa_b_n0.mp h7
    refine xa_aload_n (pc := 10) dX8_tick_10 rfl ?_
    refine xa_getI (pc := 11) 8 36 lfX8_191 dX8_tick_11 xm_o rfl rfl ?_
    refine xa_iload_n (pc := 14) dX8_tick_14 rfl ?_
    refine xa_iadd (pc := 15) dX8_tick_15 ?_
    refine xa_sipush (pc := 16) (v := 30000) dX8_tick_16 (by decide) ?_
    refine xa_icmp_le (pc := 19) 24 dX8_tick_19 (by decide) (fun h19 => ?_) (fun h19 => ?_)
    · refine xa_iconst (pc := 24) (v := 0) dX8_tick_24 (by decide) ?_
      refine xa_istore_n (pc := 25) dX8_tick_25 (by decide) ?_
      have tk : xm_tko S n = true := by simp [xm_tko, h7, h19]
      obtain ⟨en, n1, n2⟩ := tko_n tk
      rw [show xm_tick nh ns S n = _ from if_pos tk]
      exact xa_fgk (lm_ti26 E S (N := xc n) n2 hI 0 (Nat.zero_le _) _ rfl) (And.intro rfl (And.intro (by rw [← en]) (And.intro rfl trivial)))
    · refine xa_iconst (pc := 22) (v := (-1)) dX8_tick_22 (by decide) ?_
      rw [show xm_tick nh ns S n = _ from if_neg (by simp [xm_tko, h7, h19])]
      exact xa_zret dX8_tick_23 rfl rfl ⟨rfl, rfl, rfl⟩
