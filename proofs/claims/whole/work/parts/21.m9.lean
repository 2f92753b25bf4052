theorem xm_wf_ha {nh ns h l k : Nat} {t : Int32} {S : xa_AH} (hw : xm_wf nh ns S) : xm_wf nh ns (xm_ha nh ns h l k t S) := by
  unfold xm_ha
  have h1 : xm_wf nh ns (if ¬ S 164 (16 * h + k) = 0 ∧ S 165 (16 * h + k) = S 180 (16 * l + k) ∧ S 181 (16 * l + k) &&& (xm_kn ns S h (nI k) t ^^^ (-1)) = 0 then xa_up S 164 (16 * h + k) 0 else S) := by
    split
    · exact xm_wf_up hw rfl
    · exact hw
  generalize (if ¬ S 164 (16 * h + k) = 0 ∧ S 165 (16 * h + k) = S 180 (16 * l + k) ∧ S 181 (16 * l + k) &&& (xm_kn ns S h (nI k) t ^^^ (-1)) = 0 then xa_up S 164 (16 * h + k) 0 else S) = T at h1 ⊢
  unfold xm_haD xm_haC
  split
  · unfold xm_haB
    exact xa_lp_inv h1 (fun i U _ hU => xm_wf_ha1 hU)
  · exact h1
theorem xm_wf_ht {nh ns h s row : Nat} {t : Int32} {S : xa_AH} (hw : xm_wf nh ns S) : xm_wf nh ns (xm_ht ns h s row t S) := by
  unfold xm_ht
  split
  · have h1 : xm_wf nh ns (xa_lp (xm_ht1 ns h s (S 187 row) t) ns S) := xa_lp_inv hw (fun i U _ hU => xm_wf_ht1 hU)
    generalize xa_lp (xm_ht1 ns h s (S 187 row) t) ns S = T at h1 ⊢
    unfold xm_htD
    have h2 : xm_wf nh ns (if 2 * S 189 row < T 150 s then T else xa_up T 163 (32 * h + s) (-1)) := by
      split
      · exact h1
      · exact xm_wf_up h1 rfl
    generalize (if 2 * S 189 row < T 150 s then T else xa_up T 163 (32 * h + s) (-1)) = U at h2 ⊢
    unfold xm_htC
    split
    · exact h2
    · unfold xm_htB
      split
      · exact xm_wf_up h2 rfl
      · have h3 : xm_wf nh ns (xa_lp (xm_ht3 h s (S 187 row)) ns U) := xa_lp_inv h2 (fun i V _ hV => xm_wf_ht3 hV)
        unfold xm_htS
        exact xm_wf_up (xm_wf_up (xm_wf_up (xm_wf_up (xm_wf_up h3 rfl) rfl) rfl) rfl) rfl
  · exact xm_wf_up hw rfl
theorem xm_nm_ha {nh ns h l k : Nat} {t : Int32} {S : xa_AH} (hw : xm_nm nh S) : xm_nm nh (xm_ha nh ns h l k t S) := by
  unfold xm_ha
  have h1 : xm_nm nh (if ¬ S 164 (16 * h + k) = 0 ∧ S 165 (16 * h + k) = S 180 (16 * l + k) ∧ S 181 (16 * l + k) &&& (xm_kn ns S h (nI k) t ^^^ (-1)) = 0 then xa_up S 164 (16 * h + k) 0 else S) := by
    split
    · exact xm_nm_up hw rfl
    · exact hw
  generalize (if ¬ S 164 (16 * h + k) = 0 ∧ S 165 (16 * h + k) = S 180 (16 * l + k) ∧ S 181 (16 * l + k) &&& (xm_kn ns S h (nI k) t ^^^ (-1)) = 0 then xa_up S 164 (16 * h + k) 0 else S) = T at h1 ⊢
  unfold xm_haD xm_haC
  split
  · unfold xm_haB
    exact xa_lp_inv h1 (fun i U _ hU => xm_nm_ha1 hU)
  · exact h1
theorem xm_nm_ht {nh ns h s row : Nat} {t : Int32} {S : xa_AH} (hw : xm_nm nh S) : xm_nm nh (xm_ht ns h s row t S) := by
  unfold xm_ht
  split
  · have h1 : xm_nm nh (xa_lp (xm_ht1 ns h s (S 187 row) t) ns S) := xa_lp_inv hw (fun i U _ hU => xm_nm_ht1 hU)
    generalize xa_lp (xm_ht1 ns h s (S 187 row) t) ns S = T at h1 ⊢
    unfold xm_htD
    have h2 : xm_nm nh (if 2 * S 189 row < T 150 s then T else xa_up T 163 (32 * h + s) (-1)) := by
      split
      · exact h1
      · exact xm_nm_up h1 rfl
    generalize (if 2 * S 189 row < T 150 s then T else xa_up T 163 (32 * h + s) (-1)) = U at h2 ⊢
    unfold xm_htC
    split
    · exact h2
    · unfold xm_htB
      split
      · exact xm_nm_up h2 rfl
      · have h3 : xm_nm nh (xa_lp (xm_ht3 h s (S 187 row)) ns U) := xa_lp_inv h2 (fun i V _ hV => xm_nm_ht3 hV)
        unfold xm_htS
        exact xm_nm_up (xm_nm_up (xm_nm_up (xm_nm_up (xm_nm_up h3 rfl) rfl) rfl) rfl) rfl
  · exact xm_nm_up hw rfl
def xm_he1 (nh ns h l : Nat) (t : Int32) (k : Nat) (S : xa_AH) : xa_AH := if S 179 (16 * l + k) = 0 then S else xm_ha nh ns h l k t S
def xm_he2 (ns h l : Nat) (t : Int32) (s : Nat) (S : xa_AH) : xa_AH := if S 183 (32 * l + s) ≤ 0 then S else xm_hc ns h s (S 183 (32 * l + s)) t S
def xm_he3 (h l : Nat) (s : Nat) (S : xa_AH) : xa_AH := if S 185 (32 * l + s) = 0 then S else xa_up S 158 (32 * h + s) 0
def xm_he4 (ns h l : Nat) (t : Int32) (s : Nat) (S : xa_AH) : xa_AH := if S 187 (32 * l + s) ≤ 0 then S else xm_ht ns h s (32 * l + s) t S
def xm_hears (nh ns h l : Nat) (t : Int32) (S : xa_AH) : xa_AH := xa_lp (xm_he4 ns h l t) ns (xa_lp (xm_he3 h l) ns (xa_lp (xm_he2 ns h l t) ns (xa_lp (xm_he1 nh ns h l t) 16 S)))
theorem xm_wf_he1 {nh ns h l x : Nat} {t : Int32} {S : xa_AH} (hw : xm_wf nh ns S) : xm_wf nh ns (xm_he1 nh ns h l t x S) := by
  unfold xm_he1; split
  · exact hw
  · exact xm_wf_ha hw
theorem xm_wf_he2 {nh ns h l x : Nat} {t : Int32} {S : xa_AH} (hw : xm_wf nh ns S) : xm_wf nh ns (xm_he2 ns h l t x S) := by
  unfold xm_he2; split
  · exact hw
  · exact xm_wf_hc hw
theorem xm_wf_he3 {nh ns h l x : Nat} {S : xa_AH} (hw : xm_wf nh ns S) : xm_wf nh ns (xm_he3 h l x S) := by
  unfold xm_he3; split
  · exact hw
  · exact xm_wf_up hw rfl
theorem xm_wf_he4 {nh ns h l x : Nat} {t : Int32} {S : xa_AH} (hw : xm_wf nh ns S) : xm_wf nh ns (xm_he4 ns h l t x S) := by
  unfold xm_he4; split
  · exact hw
  · exact xm_wf_ht hw
theorem xm_nm_he1 {nh ns h l x : Nat} {t : Int32} {S : xa_AH} (hw : xm_nm nh S) : xm_nm nh (xm_he1 nh ns h l t x S) := by
  unfold xm_he1; split
  · exact hw
  · exact xm_nm_ha hw
theorem xm_nm_he2 {nh ns h l x : Nat} {t : Int32} {S : xa_AH} (hw : xm_nm nh S) : xm_nm nh (xm_he2 ns h l t x S) := by
  unfold xm_he2; split
  · exact hw
  · exact xm_nm_hc hw
theorem xm_nm_he3 {nh h l x : Nat} {S : xa_AH} (hw : xm_nm nh S) : xm_nm nh (xm_he3 h l x S) := by
  unfold xm_he3; split
  · exact hw
  · exact xm_nm_up hw rfl
theorem xm_nm_he4 {nh ns h l x : Nat} {t : Int32} {S : xa_AH} (hw : xm_nm nh S) : xm_nm nh (xm_he4 ns h l t x S) := by
  unfold xm_he4; split
  · exact hw
  · exact xm_nm_ht hw
set_option maxHeartbeats 4000000 in
theorem lm_he142 (E : xa_EV) (S : xa_AH) {nh ns : Nat} (hW0 : xm_wf nh ns S) (hN0 : xm_nm nh S) {h l : Nat} (hh : h < 12) (hl : l < 24) (t : Int32) : ∀ x, x ≤ ns → ∀ T, T = xa_lp (xm_he4 ns h l t) x S → xa_W E mX8_hears (xa_Z E mX8_hears xm_L (xa_pV (xa_lp (xm_he4 ns h l t) ns S) xm_R)) 0 0 142 [some (.ref 130), some (.int (nI h)), some (.int (nI l)), some (.int t), some (.int (nI x))] [] xm_L T xm_R := by
  refine xa_dn (fun x hxl ih => ?_)
  intro T eT
  have hW : xm_wf nh ns T := by rw [eT]; exact xa_lp_inv hW0 (fun i U _ hU => xm_wf_he4 hU)
  have hN : xm_nm nh T := by rw [eT]; exact xa_lp_inv hN0 (fun i U _ hU => xm_nm_he4 hU)
  obtain ⟨w1, w2, w3, w4, w5⟩ := id hW
  refine xa_iload (pc := 142) dX8_hears_142 rfl ?_
  refine xa_aload_n (pc := 144) dX8_hears_144 rfl ?_
  refine xa_getI (pc := 145) 8 26 lfX8_170 dX8_hears_145 xm_o rfl rfl ?_
  refine xa_icmpN_ge (pc := 148) 187 x ns dX8_hears_148 (by decide) rfl w4 (by omega) (by omega) (fun h148 => ?_) (fun h148 => ?_)
  · have g148 : ¬ (x < ns) := by omega
    have ex9 : x = ns := by omega
    subst ex9
    exact xa_vret dX8_hears_187 rfl ⟨rfl, eT.symm, rfl⟩
  · refine xa_aload_n (pc := 151) dX8_hears_151 rfl ?_
    refine xa_getA (pc := 152) 8 56 187 lfX8_143 dX8_hears_152 xm_o rfl rfl rfl ?_
    refine xa_bipush (pc := 155) (v := 32) dX8_hears_155 (by decide) ?_
    refine xa_iload_n (pc := 157) dX8_hears_157 rfl ?_
    refine xa_imul (pc := 158) dX8_hears_158 ?_
    refine xa_iload (pc := 159) dX8_hears_159 rfl ?_
    refine xa_iadd (pc := 161) dX8_hears_161 ?_
    refine xa_ialdN (pc := 162) ((32 * l) + x) dX8_hears_162 xm_187 rfl (xa_pa (xa_pm rfl rfl) rfl) (by show _ < 1536; omega) (by decide) ?_
    refine xa_if_le (pc := 163) 181 dX8_hears_163 (by decide) (fun h163 => ?_) (fun h163 => ?_)
    · refine xa_iinc (pc := 181) (v := nI (x + 1)) dX8_hears_181 rfl (by decide) (nI_1 _) ?_
      refine xa_goto (pc := 184) (tgt := 142) dX8_hears_184 (by decide) ?_
      exact xa_fgk (ih (by omega) _ (by rw [xa_lp, ← eT]; simp [xm_he4, h148, h163])) (And.intro rfl (And.intro rfl (And.intro rfl (And.intro rfl (And.intro rfl trivial)))))
    · refine xa_aload_n (pc := 166) dX8_hears_166 rfl ?_
      refine xa_iload_n (pc := 167) dX8_hears_167 rfl ?_
      refine xa_iload (pc := 168) dX8_hears_168 rfl ?_
      refine xa_bipush (pc := 170) (v := 32) dX8_hears_170 (by decide) ?_
      refine xa_iload_n (pc := 172) dX8_hears_172 rfl ?_
      refine xa_imul (pc := 173) dX8_hears_173 ?_
      refine xa_iload (pc := 174) dX8_hears_174 rfl ?_
      refine xa_iadd (pc := 176) dX8_hears_176 ?_
      refine xa_iload_n (pc := 177) dX8_hears_177 rfl ?_
      refine xa_callV (pc := 178) xm_o rfl rfl lcX8_296 dX8_hears_178 (cm_hearsTelling E _ hW hN (row := ((32 * l) + x)) rfl rfl (xa_pa (xa_pm rfl rfl) rfl) (by omega) (by omega) (by omega) _) rfl rfl (by decide) (Nat.le_of_ble_eq_true rfl) (by decide) ?_
      rintro _ _ _ ⟨rfl, rfl, rfl⟩
      refine xa_iinc (pc := 181) (v := nI (x + 1)) dX8_hears_181 rfl (by decide) (nI_1 _) ?_
      refine xa_goto (pc := 184) (tgt := 142) dX8_hears_184 (by decide) ?_
      exact xa_fgk (ih (by omega) _ (by rw [xa_lp, ← eT]; simp [xm_he4, h148, h163])) (And.intro rfl (And.intro rfl (And.intro rfl (And.intro rfl (And.intro rfl trivial)))))
set_option maxHeartbeats 4000000 in
theorem lm_he96 (E : xa_EV) (S : xa_AH) {nh ns : Nat} (hW0 : xm_wf nh ns S) (hN0 : xm_nm nh S) {h l : Nat} (hh : h < 12) (hl : l < 24) (t : Int32) : ∀ x, x ≤ ns → ∀ T, T = xa_lp (xm_he3 h l) x S → xa_W E mX8_hears (xa_Z E mX8_hears xm_L (xa_pV (xa_lp (xm_he4 ns h l t) ns (xa_lp (xm_he3 h l) ns S)) xm_R)) 0 0 96 [some (.ref 130), some (.int (nI h)), some (.int (nI l)), some (.int t), some (.int (nI x))] [] xm_L T xm_R := by
  refine xa_dn (fun x hxl ih => ?_)
  intro T eT
  have hW : xm_wf nh ns T := by rw [eT]; exact xa_lp_inv hW0 (fun i U _ hU => xm_wf_he3 hU)
  have hN : xm_nm nh T := by rw [eT]; exact xa_lp_inv hN0 (fun i U _ hU => xm_nm_he3 hU)
  obtain ⟨w1, w2, w3, w4, w5⟩ := id hW
  refine xa_iload (pc := 96) dX8_hears_96 rfl ?_
  refine xa_aload_n (pc := 98) dX8_hears_98 rfl ?_
  refine xa_getI (pc := 99) 8 26 lfX8_170 dX8_hears_99 xm_o rfl rfl ?_
  refine xa_icmpN_ge (pc := 102) 139 x ns dX8_hears_102 (by decide) rfl w4 (by omega) (by omega) (fun h102 => ?_) (fun h102 => ?_)
  · have g102 : ¬ (x < ns) := by omega
    refine xa_iconst (pc := 139) (v := 0) dX8_hears_139 (by decide) ?_
    refine xa_istore (pc := 140) dX8_hears_140 (by decide) ?_
    have ex9 : x = ns := by omega
    subst ex9
    rw [← eT]
    exact xa_fgk (lm_he142 E T hW hN hh hl t 0 (Nat.zero_le _) T rfl) (And.intro rfl (And.intro rfl (And.intro rfl (And.intro rfl (And.intro rfl trivial)))))
  · refine xa_aload_n (pc := 105) dX8_hears_105 rfl ?_
    refine xa_getA (pc := 106) 8 54 185 lfX8_137 dX8_hears_106 xm_o rfl rfl rfl ?_
    refine xa_bipush (pc := 109) (v := 32) dX8_hears_109 (by decide) ?_
    refine xa_iload_n (pc := 111) dX8_hears_111 rfl ?_
    refine xa_imul (pc := 112) dX8_hears_112 ?_
    refine xa_iload (pc := 113) dX8_hears_113 rfl ?_
    refine xa_iadd (pc := 115) dX8_hears_115 ?_
    refine xa_zaldN (pc := 116) ((32 * l) + x) dX8_hears_116 xm_185 rfl (xa_pa (xa_pm rfl rfl) rfl) (by show _ < 1536; omega) (by decide) ?_
    refine xa_if_eq (pc := 117) 133 dX8_hears_117 (by decide) (fun h117 => ?_) (fun h117 => ?_)
    · refine xa_iinc (pc := 133) (v := nI (x + 1)) dX8_hears_133 rfl (by decide) (nI_1 _) ?_
      refine xa_goto (pc := 136) (tgt := 96) dX8_hears_136 (by decide) ?_
      exact xa_fgk (ih (by omega) _ (by rw [xa_lp, ← eT]; simp [xm_he3, h102, h117])) (And.intro rfl (And.intro rfl (And.intro rfl (And.intro rfl (And.intro rfl trivial)))))
    · refine xa_aload_n (pc := 120) dX8_hears_120 rfl ?_
      refine xa_getA (pc := 121) 8 27 158 lfX8_86 dX8_hears_121 xm_o rfl rfl rfl ?_
      refine xa_bipush (pc := 124) (v := 32) dX8_hears_124 (by decide) ?_
      refine xa_iload_n (pc := 126) dX8_hears_126 rfl ?_
      refine xa_imul (pc := 127) dX8_hears_127 ?_
      refine xa_iload (pc := 128) dX8_hears_128 rfl ?_
      refine xa_iadd (pc := 130) dX8_hears_130 ?_
      refine xa_iconst (pc := 131) (v := 0) dX8_hears_131 (by decide) ?_
      refine xa_zastN (pc := 132) ((32 * h) + x) dX8_hears_132 xm_158 rfl (xa_pa (xa_pm rfl rfl) rfl) (by show _ < 384; omega) (by decide) rfl ?_
      refine xa_iinc (pc := 133) (v := nI (x + 1)) dX8_hears_133 rfl (by decide) (nI_1 _) ?_
      refine xa_goto (pc := 136) (tgt := 96) dX8_hears_136 (by decide) ?_
      exact xa_fgk (ih (by omega) _ (by rw [xa_lp, ← eT]; simp [xm_he3, h102, h117])) (And.intro rfl (And.intro rfl (And.intro rfl (And.intro rfl (And.intro rfl trivial)))))
set_option maxHeartbeats 4000000 in
theorem lm_he43 (E : xa_EV) (S : xa_AH) {nh ns : Nat} (hW0 : xm_wf nh ns S) (hN0 : xm_nm nh S) {h l : Nat} (hh : h < 12) (hl : l < 24) (t : Int32) : ∀ x, x ≤ ns → ∀ T, T = xa_lp (xm_he2 ns h l t) x S → xa_W E mX8_hears (xa_Z E mX8_hears xm_L (xa_pV (xa_lp (xm_he4 ns h l t) ns (xa_lp (xm_he3 h l) ns (xa_lp (xm_he2 ns h l t) ns S))) xm_R)) 0 0 43 [some (.ref 130), some (.int (nI h)), some (.int (nI l)), some (.int t), some (.int (nI x))] [] xm_L T xm_R := by
  refine xa_dn (fun x hxl ih => ?_)
  intro T eT
  have hW : xm_wf nh ns T := by rw [eT]; exact xa_lp_inv hW0 (fun i U _ hU => xm_wf_he2 hU)
  have hN : xm_nm nh T := by rw [eT]; exact xa_lp_inv hN0 (fun i U _ hU => xm_nm_he2 hU)
  obtain ⟨w1, w2, w3, w4, w5⟩ := id hW
  refine xa_iload (pc := 43) dX8_hears_43 rfl ?_
  refine xa_aload_n (pc := 45) dX8_hears_45 rfl ?_
  refine xa_getI (pc := 46) 8 26 lfX8_170 dX8_hears_46 xm_o rfl rfl ?_
  refine xa_icmpN_ge (pc := 49) 93 x ns dX8_hears_49 (by decide) rfl w4 (by omega) (by omega) (fun h49 => ?_) (fun h49 => ?_)
  · have g49 : ¬ (x < ns) := by omega
    refine xa_iconst (pc := 93) (v := 0) dX8_hears_93 (by decide) ?_
    refine xa_istore (pc := 94) dX8_hears_94 (by decide) ?_
    have ex9 : x = ns := by omega
    subst ex9
    rw [← eT]
    exact xa_fgk (lm_he96 E T hW hN hh hl t 0 (Nat.zero_le _) T rfl) (And.intro rfl (And.intro rfl (And.intro rfl (And.intro rfl (And.intro rfl trivial)))))
  · refine xa_aload_n (pc := 52) dX8_hears_52 rfl ?_
    refine xa_getA (pc := 53) 8 52 183 lfX8_131 dX8_hears_53 xm_o rfl rfl rfl ?_
    refine xa_bipush (pc := 56) (v := 32) dX8_hears_56 (by decide) ?_
    refine xa_iload_n (pc := 58) dX8_hears_58 rfl ?_
    refine xa_imul (pc := 59) dX8_hears_59 ?_
    refine xa_iload (pc := 60) dX8_hears_60 rfl ?_
    refine xa_iadd (pc := 62) dX8_hears_62 ?_
    refine xa_ialdN (pc := 63) ((32 * l) + x) dX8_hears_63 xm_183 rfl (xa_pa (xa_pm rfl rfl) rfl) (by show _ < 1536; omega) (by decide) ?_
    refine xa_if_le (pc := 64) 87 dX8_hears_64 (by decide) (fun h64 => ?_) (fun h64 => ?_)
    · refine xa_iinc (pc := 87) (v := nI (x + 1)) dX8_hears_87 rfl (by decide) (nI_1 _) ?_
      refine xa_goto (pc := 90) (tgt := 43) dX8_hears_90 (by decide) ?_
      exact xa_fgk (ih (by omega) _ (by rw [xa_lp, ← eT]; simp [xm_he2, h49, h64])) (And.intro rfl (And.intro rfl (And.intro rfl (And.intro rfl (And.intro rfl trivial)))))
    · refine xa_aload_n (pc := 67) dX8_hears_67 rfl ?_
      refine xa_iload_n (pc := 68) dX8_hears_68 rfl ?_
      refine xa_iload (pc := 69) dX8_hears_69 rfl ?_
      refine xa_aload_n (pc := 71) dX8_hears_71 rfl ?_
      refine xa_getA (pc := 72) 8 52 183 lfX8_131 dX8_hears_72 xm_o rfl rfl rfl ?_
      refine xa_bipush (pc := 75) (v := 32) dX8_hears_75 (by decide) ?_
      refine xa_iload_n (pc := 77) dX8_hears_77 rfl ?_
      refine xa_imul (pc := 78) dX8_hears_78 ?_
      refine xa_iload (pc := 79) dX8_hears_79 rfl ?_
      refine xa_iadd (pc := 81) dX8_hears_81 ?_
      refine xa_ialdN (pc := 82) ((32 * l) + x) dX8_hears_82 xm_183 rfl (xa_pa (xa_pm rfl rfl) rfl) (by show _ < 1536; omega) (by decide) ?_
      refine xa_iload_n (pc := 83) dX8_hears_83 rfl ?_
      refine xa_callV (pc := 84) xm_o rfl rfl lcX8_293 dX8_hears_84 (cm_hearsClaim E _ hW hN rfl rfl (by omega) (by omega) _ _) rfl rfl (by decide) (Nat.le_of_ble_eq_true rfl) (by decide) ?_
      rintro _ _ _ ⟨rfl, rfl, rfl⟩
      refine xa_iinc (pc := 87) (v := nI (x + 1)) dX8_hears_87 rfl (by decide) (nI_1 _) ?_
      refine xa_goto (pc := 90) (tgt := 43) dX8_hears_90 (by decide) ?_
      exact xa_fgk (ih (by omega) _ (by rw [xa_lp, ← eT]; simp [xm_he2, h49, h64])) (And.intro rfl (And.intro rfl (And.intro rfl (And.intro rfl (And.intro rfl trivial)))))
set_option maxHeartbeats 4000000 in
theorem lm_he3 (E : xa_EV) (S : xa_AH) {nh ns : Nat} (hW0 : xm_wf nh ns S) (hN0 : xm_nm nh S) {h l : Nat} (hh : h < 12) (hl : l < 24) (t : Int32) : ∀ x, x ≤ 16 → ∀ T, T = xa_lp (xm_he1 nh ns h l t) x S → xa_W E mX8_hears (xa_Z E mX8_hears xm_L (xa_pV (xa_lp (xm_he4 ns h l t) ns (xa_lp (xm_he3 h l) ns (xa_lp (xm_he2 ns h l t) ns (xa_lp (xm_he1 nh ns h l t) 16 S)))) xm_R)) 0 0 3 [some (.ref 130), some (.int (nI h)), some (.int (nI l)), some (.int t), some (.int (nI x))] [] xm_L T xm_R := by
  refine xa_dn (fun x hxl ih => ?_)
  intro T eT
  have hW : xm_wf nh ns T := by rw [eT]; exact xa_lp_inv hW0 (fun i U _ hU => xm_wf_he1 hU)
  have hN : xm_nm nh T := by rw [eT]; exact xa_lp_inv hN0 (fun i U _ hU => xm_nm_he1 hU)
  obtain ⟨w1, w2, w3, w4, w5⟩ := id hW
  refine xa_iload (pc := 3) dX8_hears_3 rfl ?_
  refine xa_bipush (pc := 5) (v := 16) dX8_hears_5 (by decide) ?_
  refine xa_icmpN_ge (pc := 7) 40 x 16 dX8_hears_7 (by decide) rfl rfl (by omega) (by omega) (fun h7 => ?_) (fun h7 => ?_)
  · have g7 : ¬ (x < 16) := by omega
    refine xa_iconst (pc := 40) (v := 0) dX8_hears_40 (by decide) ?_
    refine xa_istore (pc := 41) dX8_hears_41 (by decide) ?_
    have ex9 : x = 16 := by omega
    subst ex9
    rw [← eT]
    exact xa_fgk (lm_he43 E T hW hN hh hl t 0 (Nat.zero_le _) T rfl) (And.intro rfl (And.intro rfl (And.intro rfl (And.intro rfl (And.intro rfl trivial)))))
  · refine xa_aload_n (pc := 10) dX8_hears_10 rfl ?_
    refine xa_getA (pc := 11) 8 48 179 lfX8_119 dX8_hears_11 xm_o rfl rfl rfl ?_
    refine xa_bipush (pc := 14) (v := 16) dX8_hears_14 (by decide) ?_
    refine xa_iload_n (pc := 16) dX8_hears_16 rfl ?_
    refine xa_imul (pc := 17) dX8_hears_17 ?_
    refine xa_iload (pc := 18) dX8_hears_18 rfl ?_
    refine xa_iadd (pc := 20) dX8_hears_20 ?_
    refine xa_zaldN (pc := 21) ((16 * l) + x) dX8_hears_21 xm_179 rfl (xa_pa (xa_pm rfl rfl) rfl) (by show _ < 768; omega) (by decide) ?_
    refine xa_if_eq (pc := 22) 34 dX8_hears_22 (by decide) (fun h22 => ?_) (fun h22 => ?_)
    · refine xa_iinc (pc := 34) (v := nI (x + 1)) dX8_hears_34 rfl (by decide) (nI_1 _) ?_
      refine xa_goto (pc := 37) (tgt := 3) dX8_hears_37 (by decide) ?_
      exact xa_fgk (ih (by omega) _ (by rw [xa_lp, ← eT]; simp [xm_he1, h7, h22])) (And.intro rfl (And.intro rfl (And.intro rfl (And.intro rfl (And.intro rfl trivial)))))
    · refine xa_aload_n (pc := 25) dX8_hears_25 rfl ?_
      refine xa_iload_n (pc := 26) dX8_hears_26 rfl ?_
      refine xa_iload_n (pc := 27) dX8_hears_27 rfl ?_
      refine xa_iload (pc := 28) dX8_hears_28 rfl ?_
      refine xa_iload_n (pc := 30) dX8_hears_30 rfl ?_
      refine xa_callV (pc := 31) xm_o rfl rfl lcX8_289 dX8_hears_31 (cm_hearsAsk E _ hW hN rfl rfl rfl (by omega) (by omega) (by omega) _) rfl rfl (by decide) (Nat.le_of_ble_eq_true rfl) (by decide) ?_
      rintro _ _ _ ⟨rfl, rfl, rfl⟩
      refine xa_iinc (pc := 34) (v := nI (x + 1)) dX8_hears_34 rfl (by decide) (nI_1 _) ?_
      refine xa_goto (pc := 37) (tgt := 3) dX8_hears_37 (by decide) ?_
      exact xa_fgk (ih (by omega) _ (by rw [xa_lp, ← eT]; simp [xm_he1, h7, h22])) (And.intro rfl (And.intro rfl (And.intro rfl (And.intro rfl (And.intro rfl trivial)))))
set_option maxHeartbeats 4000000 in
theorem cm_hears (E : xa_EV) (S : xa_AH) {nh ns : Nat} (hW : xm_wf nh ns S) (hN : xm_nm nh S) {h : Nat} {xh : Int32} (eh : xh = nI h) {l : Nat} {xl : Int32} (el : xl = nI l) (hh : h < 12) (hl : l < 24) (t : Int32) : xa_Ct E mX8_hears [.ref 130, .int xh, .int xl, .int t] xm_L S xm_R (xa_pV (xm_hears nh ns h l t S) xm_R) := by
  subst eh; subst el
  refine xa_Ct.of [some (.ref 130), some (.int (nI h)), some (.int (nI l)), some (.int t), none] rfl (Nat.le_of_ble_eq_true rfl) (by simp [Value.category]) rfl ?_
  obtain ⟨w1, w2, w3, w4, w5⟩ := id hW
  refine xa_iconst (pc := 0) (v := 0) dX8_hears_0 (by decide) ?_
  refine xa_istore (pc := 1) dX8_hears_1 (by decide) ?_
  exact lm_he3 E S hW hN hh hl t 0 (Nat.zero_le _) _ rfl
