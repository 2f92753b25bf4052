set_option maxHeartbeats 4000000 in
theorem lm_yield104 (E : xa_EV) (S : xa_AH) {nh ns : Nat} (hW : xm_wf nh ns S) {s : Nat} (hs : s < ns) (n : Int32) (f : Bool) : xa_W E mX8_yieldsName (xa_Z E mX8_yieldsName xm_L (xa_pV (xm_yl4 (xm_yl3 S s (n, f)) (xc (S 146 s))) xm_R)) 0 0 104 [some (.ref 130), some (.int (nI s)), some (.int (S 146 s)), some (.int n), some (.int (xa_b f)), none] [] xm_L S xm_R := by
  obtain ⟨w1, w2, w3, w4, w5⟩ := id hW
  have hbo : xc (S 146 s) < nh := xa_in_lt (w5 s hs)
  refine xa_aload_n (pc := 104) dX8_yieldsName_104 rfl ?_
  refine xa_getA (pc := 105) 8 17 148 lfX8_59 dX8_yieldsName_105 xm_o rfl rfl rfl ?_
  refine xa_iload_n (pc := 108) dX8_yieldsName_108 rfl ?_
  refine xa_iload (pc := 109) dX8_yieldsName_109 rfl ?_
  refine xa_if_eq (pc := 111) 118 dX8_yieldsName_111 (by decide) (fun h111 => ?_) (fun h111 => ?_)
  · have h111 := xa_b_0.mp h111
    refine xa_aload_n (pc := 118) dX8_yieldsName_118 rfl ?_
    refine xa_getA (pc := 119) 8 17 148 lfX8_59 dX8_yieldsName_119 xm_o rfl rfl rfl ?_
    refine xa_iload_n (pc := 122) dX8_yieldsName_122 rfl ?_
    refine xa_ialdN (pc := 123) s dX8_yieldsName_123 xm_148 rfl rfl (by show _ < 32; omega) (by decide) ?_
    refine xa_iastN (pc := 124) s dX8_yieldsName_124 xm_148 rfl rfl (by show _ < 32; omega) (by decide) ?_
    refine xa_aload_n (pc := 125) dX8_yieldsName_125 rfl ?_
    refine xa_getA (pc := 126) 8 20 151 lfX8_68 dX8_yieldsName_126 xm_o rfl rfl rfl ?_
    refine xa_iload_n (pc := 129) dX8_yieldsName_129 rfl ?_
    refine xa_iconst (pc := 130) (v := 1) dX8_yieldsName_130 (by decide) ?_
    refine xa_iastN (pc := 131) s dX8_yieldsName_131 xm_151 rfl rfl (by show _ < 32; omega) (by decide) ?_
    refine xa_aload_n (pc := 132) dX8_yieldsName_132 rfl ?_
    refine xa_getA (pc := 133) 8 21 152 lfX8_71 dX8_yieldsName_133 xm_o rfl rfl rfl ?_
    refine xa_iload_n (pc := 136) dX8_yieldsName_136 rfl ?_
    refine xa_iconst (pc := 137) (v := 3) dX8_yieldsName_137 (by decide) ?_
    refine xa_iastN (pc := 138) s dX8_yieldsName_138 xm_152 rfl rfl (by show _ < 32; omega) (by decide) ?_
    refine xa_aload_n (pc := 139) dX8_yieldsName_139 rfl ?_
    refine xa_getA (pc := 140) 8 22 153 lfX8_74 dX8_yieldsName_140 xm_o rfl rfl rfl ?_
    refine xa_iload_n (pc := 143) dX8_yieldsName_143 rfl ?_
    refine xa_iconst (pc := 144) (v := (-1)) dX8_yieldsName_144 (by decide) ?_
    refine xa_iastN (pc := 145) s dX8_yieldsName_145 xm_153 rfl rfl (by show _ < 32; omega) (by decide) ?_
    refine xa_aload_n (pc := 146) dX8_yieldsName_146 rfl ?_
    refine xa_getA (pc := 147) 8 23 154 lfX8_77 dX8_yieldsName_147 xm_o rfl rfl rfl ?_
    refine xa_iload_n (pc := 150) dX8_yieldsName_150 rfl ?_
    refine xa_dup2 (pc := 151) dX8_yieldsName_151 rfl rfl ?_
    refine xa_ialdN (pc := 152) s dX8_yieldsName_152 xm_154 rfl rfl (by show _ < 32; omega) (by decide) ?_
    refine xa_iconst (pc := 153) (v := 1) dX8_yieldsName_153 (by decide) ?_
    refine xa_iadd (pc := 154) dX8_yieldsName_154 ?_
    refine xa_iastN (pc := 155) s dX8_yieldsName_155 xm_154 rfl rfl (by show _ < 32; omega) (by decide) ?_
    refine xa_aload_n (pc := 156) dX8_yieldsName_156 rfl ?_
    refine xa_dup (pc := 157) dX8_yieldsName_157 rfl ?_
    refine xa_getI (pc := 158) 8 39 lfX8_237 dX8_yieldsName_158 xm_o rfl rfl ?_
    refine xa_iconst (pc := 161) (v := 1) dX8_yieldsName_161 (by decide) ?_
    refine xa_iadd (pc := 162) dX8_yieldsName_162 ?_
    refine xa_putI (pc := 163) 8 39 lpX8_237 dX8_yieldsName_163 xm_o rfl rfl rfl rfl ?_
    refine xa_aload_n (pc := 166) dX8_yieldsName_166 rfl ?_
    refine xa_getA (pc := 167) 8 5 136 lfX8_25 dX8_yieldsName_167 xm_o rfl rfl rfl ?_
    refine xa_iload_n (pc := 170) dX8_yieldsName_170 rfl ?_
    refine xa_ialdN (pc := 171) (xc (S 146 s)) dX8_yieldsName_171 xm_136 rfl (xa_in_eq (w5 s (by omega))) (by show _ < 12; omega) (by decide) ?_
    refine xa_iconst (pc := 172) (v := 1) dX8_yieldsName_172 (by decide) ?_
    refine xa_icmp_eq (pc := 173) 177 dX8_yieldsName_173 (by decide) (fun h173 => ?_) (fun h173 => ?_)
    · refine xa_aload_n (pc := 177) dX8_yieldsName_177 rfl ?_
      refine xa_iload_n (pc := 178) dX8_yieldsName_178 rfl ?_
      refine xa_callV (pc := 179) xm_o rfl rfl lcX8_208 dX8_yieldsName_179 (cm_wakes E _ (h := (xc (S 146 s))) (xa_in_eq (w5 s (by omega))) (by omega)) rfl rfl (by decide) (Nat.le_of_ble_eq_true rfl) (by decide) ?_
      rintro _ _ _ ⟨rfl, rfl, rfl⟩
      refine xa_aload_n (pc := 182) dX8_yieldsName_182 rfl ?_
      refine xa_dup (pc := 183) dX8_yieldsName_183 rfl ?_
      refine xa_getI (pc := 184) 8 42 lfX8_221 dX8_yieldsName_184 xm_o rfl rfl ?_
      refine xa_iconst (pc := 187) (v := 1) dX8_yieldsName_187 (by decide) ?_
      refine xa_iadd (pc := 188) dX8_yieldsName_188 ?_
      refine xa_putI (pc := 189) 8 42 lpX8_221 dX8_yieldsName_189 xm_o rfl rfl rfl rfl ?_
      exact xa_vret dX8_yieldsName_192 rfl ⟨rfl, by cases h111; exact if_pos h173, rfl⟩
    · exact xa_vret dX8_yieldsName_176 rfl ⟨rfl, by cases h111; exact if_neg h173, rfl⟩
  · have h111 := xa_b_n0.mp h111
    refine xa_iload_n (pc := 114) dX8_yieldsName_114 rfl ?_
    refine xa_goto (pc := 115) (tgt := 124) dX8_yieldsName_115 (by decide) ?_
    refine xa_iastN (pc := 124) s dX8_yieldsName_124 xm_148 rfl rfl (by show _ < 32; omega) (by decide) ?_
    refine xa_aload_n (pc := 125) dX8_yieldsName_125 rfl ?_
    refine xa_getA (pc := 126) 8 20 151 lfX8_68 dX8_yieldsName_126 xm_o rfl rfl rfl ?_
    refine xa_iload_n (pc := 129) dX8_yieldsName_129 rfl ?_
    refine xa_iconst (pc := 130) (v := 1) dX8_yieldsName_130 (by decide) ?_
    refine xa_iastN (pc := 131) s dX8_yieldsName_131 xm_151 rfl rfl (by show _ < 32; omega) (by decide) ?_
    refine xa_aload_n (pc := 132) dX8_yieldsName_132 rfl ?_
    refine xa_getA (pc := 133) 8 21 152 lfX8_71 dX8_yieldsName_133 xm_o rfl rfl rfl ?_
    refine xa_iload_n (pc := 136) dX8_yieldsName_136 rfl ?_
    refine xa_iconst (pc := 137) (v := 3) dX8_yieldsName_137 (by decide) ?_
    refine xa_iastN (pc := 138) s dX8_yieldsName_138 xm_152 rfl rfl (by show _ < 32; omega) (by decide) ?_
    refine xa_aload_n (pc := 139) dX8_yieldsName_139 rfl ?_
    refine xa_getA (pc := 140) 8 22 153 lfX8_74 dX8_yieldsName_140 xm_o rfl rfl rfl ?_
    refine xa_iload_n (pc := 143) dX8_yieldsName_143 rfl ?_
    refine xa_iconst (pc := 144) (v := (-1)) dX8_yieldsName_144 (by decide) ?_
    refine xa_iastN (pc := 145) s dX8_yieldsName_145 xm_153 rfl rfl (by show _ < 32; omega) (by decide) ?_
    refine xa_aload_n (pc := 146) dX8_yieldsName_146 rfl ?_
    refine xa_getA (pc := 147) 8 23 154 lfX8_77 dX8_yieldsName_147 xm_o rfl rfl rfl ?_
    refine xa_iload_n (pc := 150) dX8_yieldsName_150 rfl ?_
    refine xa_dup2 (pc := 151) dX8_yieldsName_151 rfl rfl ?_
    refine xa_ialdN (pc := 152) s dX8_yieldsName_152 xm_154 rfl rfl (by show _ < 32; omega) (by decide) ?_
    refine xa_iconst (pc := 153) (v := 1) dX8_yieldsName_153 (by decide) ?_
    refine xa_iadd (pc := 154) dX8_yieldsName_154 ?_
    refine xa_iastN (pc := 155) s dX8_yieldsName_155 xm_154 rfl rfl (by show _ < 32; omega) (by decide) ?_
    refine xa_aload_n (pc := 156) dX8_yieldsName_156 rfl ?_
    refine xa_dup (pc := 157) dX8_yieldsName_157 rfl ?_
    refine xa_getI (pc := 158) 8 39 lfX8_237 dX8_yieldsName_158 xm_o rfl rfl ?_
    refine xa_iconst (pc := 161) (v := 1) dX8_yieldsName_161 (by decide) ?_
    refine xa_iadd (pc := 162) dX8_yieldsName_162 ?_
    refine xa_putI (pc := 163) 8 39 lpX8_237 dX8_yieldsName_163 xm_o rfl rfl rfl rfl ?_
    refine xa_aload_n (pc := 166) dX8_yieldsName_166 rfl ?_
    refine xa_getA (pc := 167) 8 5 136 lfX8_25 dX8_yieldsName_167 xm_o rfl rfl rfl ?_
    refine xa_iload_n (pc := 170) dX8_yieldsName_170 rfl ?_
    refine xa_ialdN (pc := 171) (xc (S 146 s)) dX8_yieldsName_171 xm_136 rfl (xa_in_eq (w5 s (by omega))) (by show _ < 12; omega) (by decide) ?_
    refine xa_iconst (pc := 172) (v := 1) dX8_yieldsName_172 (by decide) ?_
    refine xa_icmp_eq (pc := 173) 177 dX8_yieldsName_173 (by decide) (fun h173 => ?_) (fun h173 => ?_)
    · refine xa_aload_n (pc := 177) dX8_yieldsName_177 rfl ?_
      refine xa_iload_n (pc := 178) dX8_yieldsName_178 rfl ?_
      refine xa_callV (pc := 179) xm_o rfl rfl lcX8_208 dX8_yieldsName_179 (cm_wakes E _ (h := (xc (S 146 s))) (xa_in_eq (w5 s (by omega))) (by omega)) rfl rfl (by decide) (Nat.le_of_ble_eq_true rfl) (by decide) ?_
      rintro _ _ _ ⟨rfl, rfl, rfl⟩
      refine xa_aload_n (pc := 182) dX8_yieldsName_182 rfl ?_
      refine xa_dup (pc := 183) dX8_yieldsName_183 rfl ?_
      refine xa_getI (pc := 184) 8 42 lfX8_221 dX8_yieldsName_184 xm_o rfl rfl ?_
      refine xa_iconst (pc := 187) (v := 1) dX8_yieldsName_187 (by decide) ?_
      refine xa_iadd (pc := 188) dX8_yieldsName_188 ?_
      refine xa_putI (pc := 189) 8 42 lpX8_221 dX8_yieldsName_189 xm_o rfl rfl rfl rfl ?_
      exact xa_vret dX8_yieldsName_192 rfl ⟨rfl, by cases h111; exact if_pos h173, rfl⟩
    · exact xa_vret dX8_yieldsName_176 rfl ⟨rfl, by cases h111; exact if_neg h173, rfl⟩
set_option maxHeartbeats 4000000 in
theorem lm_yield42 (E : xa_EV) (S : xa_AH) {nh ns : Nat} (hW : xm_wf nh ns S) (hN : xm_nm nh S) {s : Nat} (hsn : s < ns) : ∀ i, i ≤ (xc (S 134 (xc (S 146 s)))) - (xc (S 133 (xc (S 146 s)))) → ∀ n f, (n, f) = xm_yn ns S (S 146 s) s (S 133 (xc (S 146 s))) (S 134 (xc (S 146 s))) i → xa_W E mX8_yieldsName (xa_Z E mX8_yieldsName xm_L (xa_pV (xm_yl4 (xm_yl3 S s (xm_yn ns S (S 146 s) s (S 133 (xc (S 146 s))) (S 134 (xc (S 146 s))) ((xc (S 134 (xc (S 146 s)))) - (xc (S 133 (xc (S 146 s))))))) (xc (S 146 s))) xm_R)) 0 0 42 [some (.ref 130), some (.int (nI s)), some (.int (S 146 s)), some (.int n), some (.int (xa_b f)), some (.int (nI ((xc (S 133 (xc (S 146 s)))) + i)))] [] xm_L S xm_R := by
  obtain ⟨w1, w2, w3, w4, w5⟩ := id hW
  have hbo : xc (S 146 s) < nh := xa_in_lt (w5 s hsn)
  have elo : S 133 (xc (S 146 s)) = nI (xc (S 133 (xc (S 146 s)))) := xa_in_eq (hN _ hbo).1
  have ehg : S 134 (xc (S 146 s)) = nI (xc (S 134 (xc (S 146 s)))) := xa_in_eq (hN _ hbo).2
  have blo : (xc (S 133 (xc (S 146 s)))) < 251 := xa_in_lt (hN _ hbo).1
  have bhg : (xc (S 134 (xc (S 146 s)))) < 251 := xa_in_lt (hN _ hbo).2
  refine xa_dn (fun i hs ih => ?_)
  intro n f hq
  refine xa_iload (pc := 42) dX8_yieldsName_42 rfl ?_
  refine xa_aload_n (pc := 44) dX8_yieldsName_44 rfl ?_
  refine xa_getA (pc := 45) 8 3 134 lfX8_19 dX8_yieldsName_45 xm_o rfl rfl rfl ?_
  refine xa_iload_n (pc := 48) dX8_yieldsName_48 rfl ?_
  refine xa_ialdN (pc := 49) (xc (S 146 s)) dX8_yieldsName_49 xm_134 rfl (xa_in_eq (w5 s hsn)) (by show _ < 12; omega) (by decide) ?_
  refine xa_icmpN_ge (pc := 50) 104 ((xc (S 133 (xc (S 146 s)))) + i) (xc (S 134 (xc (S 146 s)))) dX8_yieldsName_50 (by decide) rfl ehg (by omega) (by omega) (fun h50 => ?_) (fun h50 => ?_)
  · have g50 : ¬ (((xc (S 133 (xc (S 146 s)))) + i) < (xc (S 134 (xc (S 146 s))))) := by omega
    have eq9 : xm_yn ns S (S 146 s) s (S 133 (xc (S 146 s))) (S 134 (xc (S 146 s))) ((xc (S 134 (xc (S 146 s)))) - (xc (S 133 (xc (S 146 s))))) = (n, f) := by first | (rw [← (show i = (xc (S 134 (xc (S 146 s)))) - (xc (S 133 (xc (S 146 s)))) by omega)]; exact hq.symm) | (rw [xm_yn_stay (i := i) (by rw [← hq]; exact h55) _ hs]; exact hq.symm)
    rw [eq9]
    exact xa_fgk (lm_yield104 E S hW hsn n f) (And.intro rfl (And.intro rfl (And.intro rfl (And.intro rfl (And.intro rfl trivial)))))
  · refine xa_iload (pc := 53) dX8_yieldsName_53 rfl ?_
    refine xa_if_ne (pc := 55) 104 dX8_yieldsName_55 (by decide) (fun h55 => ?_) (fun h55 => ?_)
    · have h55 := xa_b_n0.mp h55
      have eq9 : xm_yn ns S (S 146 s) s (S 133 (xc (S 146 s))) (S 134 (xc (S 146 s))) ((xc (S 134 (xc (S 146 s)))) - (xc (S 133 (xc (S 146 s))))) = (n, f) := by first | (rw [← (show i = (xc (S 134 (xc (S 146 s)))) - (xc (S 133 (xc (S 146 s)))) by omega)]; exact hq.symm) | (rw [xm_yn_stay (i := i) (by rw [← hq]; exact h55) _ hs]; exact hq.symm)
      rw [eq9]
      exact xa_fgk (lm_yield104 E S hW hsn n f) (And.intro rfl (And.intro rfl (And.intro rfl (And.intro rfl (And.intro rfl trivial)))))
    · have h55 := xa_b_0.mp h55
      refine xa_iload_n (pc := 58) dX8_yieldsName_58 rfl ?_
      refine xa_aload_n (pc := 59) dX8_yieldsName_59 rfl ?_
      refine xa_getA (pc := 60) 8 3 134 lfX8_19 dX8_yieldsName_60 xm_o rfl rfl rfl ?_
      refine xa_iload_n (pc := 63) dX8_yieldsName_63 rfl ?_
      refine xa_ialdN (pc := 64) (xc (S 146 s)) dX8_yieldsName_64 xm_134 rfl (xa_in_eq (w5 s hsn)) (by show _ < 12; omega) (by decide) ?_
      refine xa_icmp_ne (pc := 65) 77 dX8_yieldsName_65 (by decide) (fun h65 => ?_) (fun h65 => ?_)
      · refine xa_iload_n (pc := 77) dX8_yieldsName_77 rfl ?_
        refine xa_iconst (pc := 78) (v := 1) dX8_yieldsName_78 (by decide) ?_
        refine xa_iadd (pc := 79) dX8_yieldsName_79 ?_
        refine xa_istore_n (pc := 80) dX8_yieldsName_80 (by decide) ?_
        refine xa_aload_n (pc := 81) dX8_yieldsName_81 rfl ?_
        refine xa_iload_n (pc := 82) dX8_yieldsName_82 rfl ?_
        refine xa_iload_n (pc := 83) dX8_yieldsName_83 rfl ?_
        refine xa_iload_n (pc := 84) dX8_yieldsName_84 rfl ?_
        refine xa_callV (pc := 85) xm_o rfl rfl lcX8_184 dX8_yieldsName_85 (cm_isNamed E _ hW _ _ _) rfl rfl (by decide) (Nat.le_of_ble_eq_true rfl) (by decide) ?_
        rintro _ _ _ ⟨rfl, rfl, rfl⟩
        refine xa_if_ne (pc := 88) 95 dX8_yieldsName_88 (by decide) (fun h88 => ?_) (fun h88 => ?_)
        · have h88 := xa_b_n0.mp h88
          refine xa_iconst (pc := 95) (v := 0) dX8_yieldsName_95 (by decide) ?_
          refine xa_istore (pc := 96) dX8_yieldsName_96 (by decide) ?_
          refine xa_iinc (pc := 98) (v := nI (((xc (S 133 (xc (S 146 s)))) + i) + 1)) dX8_yieldsName_98 rfl (by decide) (nI_1 _) ?_
          refine xa_goto (pc := 101) (tgt := 42) dX8_yieldsName_101 (by decide) ?_
          exact xa_fgk (ih (by omega) (n + 1) (!xa_any (xm_np S (S 146 s) (n + 1) (nI s)) ns) (by rw [xm_yn, ← hq]; simp [xm_ys, h55, h65])) (And.intro rfl (And.intro rfl (And.intro rfl (And.intro rfl (And.intro (by rw [h88]; rfl) (And.intro rfl trivial))))))
        · have h88 := xa_b_0.mp h88
          refine xa_iconst (pc := 91) (v := 1) dX8_yieldsName_91 (by decide) ?_
          refine xa_goto (pc := 92) (tgt := 96) dX8_yieldsName_92 (by decide) ?_
          refine xa_istore (pc := 96) dX8_yieldsName_96 (by decide) ?_
          refine xa_iinc (pc := 98) (v := nI (((xc (S 133 (xc (S 146 s)))) + i) + 1)) dX8_yieldsName_98 rfl (by decide) (nI_1 _) ?_
          refine xa_goto (pc := 101) (tgt := 42) dX8_yieldsName_101 (by decide) ?_
          exact xa_fgk (ih (by omega) (n + 1) (!xa_any (xm_np S (S 146 s) (n + 1) (nI s)) ns) (by rw [xm_yn, ← hq]; simp [xm_ys, h55, h65])) (And.intro rfl (And.intro rfl (And.intro rfl (And.intro rfl (And.intro (by rw [h88]; rfl) (And.intro rfl trivial))))))
      · refine xa_aload_n (pc := 68) dX8_yieldsName_68 rfl ?_
        refine xa_getA (pc := 69) 8 2 133 lfX8_16 dX8_yieldsName_69 xm_o rfl rfl rfl ?_
        refine xa_iload_n (pc := 72) dX8_yieldsName_72 rfl ?_
        refine xa_ialdN (pc := 73) (xc (S 146 s)) dX8_yieldsName_73 xm_133 rfl (xa_in_eq (w5 s hsn)) (by show _ < 12; omega) (by decide) ?_
        refine xa_goto (pc := 74) (tgt := 80) dX8_yieldsName_74 (by decide) ?_
        refine xa_istore_n (pc := 80) dX8_yieldsName_80 (by decide) ?_
        refine xa_aload_n (pc := 81) dX8_yieldsName_81 rfl ?_
        refine xa_iload_n (pc := 82) dX8_yieldsName_82 rfl ?_
        refine xa_iload_n (pc := 83) dX8_yieldsName_83 rfl ?_
        refine xa_iload_n (pc := 84) dX8_yieldsName_84 rfl ?_
        refine xa_callV (pc := 85) xm_o rfl rfl lcX8_184 dX8_yieldsName_85 (cm_isNamed E _ hW _ _ _) rfl rfl (by decide) (Nat.le_of_ble_eq_true rfl) (by decide) ?_
        rintro _ _ _ ⟨rfl, rfl, rfl⟩
        refine xa_if_ne (pc := 88) 95 dX8_yieldsName_88 (by decide) (fun h88 => ?_) (fun h88 => ?_)
        · have h88 := xa_b_n0.mp h88
          refine xa_iconst (pc := 95) (v := 0) dX8_yieldsName_95 (by decide) ?_
          refine xa_istore (pc := 96) dX8_yieldsName_96 (by decide) ?_
          refine xa_iinc (pc := 98) (v := nI (((xc (S 133 (xc (S 146 s)))) + i) + 1)) dX8_yieldsName_98 rfl (by decide) (nI_1 _) ?_
          refine xa_goto (pc := 101) (tgt := 42) dX8_yieldsName_101 (by decide) ?_
          exact xa_fgk (ih (by omega) (S 133 (xc (S 146 s))) (!xa_any (xm_np S (S 146 s) (S 133 (xc (S 146 s))) (nI s)) ns) (by rw [xm_yn, ← hq]; simp [xm_ys, h55, h65])) (And.intro rfl (And.intro rfl (And.intro rfl (And.intro rfl (And.intro (by rw [h88]; rfl) (And.intro rfl trivial))))))
        · have h88 := xa_b_0.mp h88
          refine xa_iconst (pc := 91) (v := 1) dX8_yieldsName_91 (by decide) ?_
          refine xa_goto (pc := 92) (tgt := 96) dX8_yieldsName_92 (by decide) ?_
          refine xa_istore (pc := 96) dX8_yieldsName_96 (by decide) ?_
          refine xa_iinc (pc := 98) (v := nI (((xc (S 133 (xc (S 146 s)))) + i) + 1)) dX8_yieldsName_98 rfl (by decide) (nI_1 _) ?_
          refine xa_goto (pc := 101) (tgt := 42) dX8_yieldsName_101 (by decide) ?_
          exact xa_fgk (ih (by omega) (S 133 (xc (S 146 s))) (!xa_any (xm_np S (S 146 s) (S 133 (xc (S 146 s))) (nI s)) ns) (by rw [xm_yn, ← hq]; simp [xm_ys, h55, h65])) (And.intro rfl (And.intro rfl (And.intro rfl (And.intro rfl (And.intro (by rw [h88]; rfl) (And.intro rfl trivial))))))
set_option maxHeartbeats 4000000 in
theorem lm_yield24 (E : xa_EV) (S : xa_AH) {nh ns : Nat} (hW : xm_wf nh ns S) (hN : xm_nm nh S) {s : Nat} (hsn : s < ns) : xa_W E mX8_yieldsName (xa_Z E mX8_yieldsName xm_L (xa_pV (xm_yl2 ns S s) xm_R)) 0 0 24 [some (.ref 130), some (.int (nI s)), some (.int (S 146 s)), none, none, none] [] xm_L S xm_R := by
  obtain ⟨w1, w2, w3, w4, w5⟩ := id hW
  have hbo : xc (S 146 s) < nh := xa_in_lt (w5 s hsn)
  have elo : S 133 (xc (S 146 s)) = nI (xc (S 133 (xc (S 146 s)))) := xa_in_eq (hN _ hbo).1
  have ehg : S 134 (xc (S 146 s)) = nI (xc (S 134 (xc (S 146 s)))) := xa_in_eq (hN _ hbo).2
  have blo : (xc (S 133 (xc (S 146 s)))) < 251 := xa_in_lt (hN _ hbo).1
  have bhg : (xc (S 134 (xc (S 146 s)))) < 251 := xa_in_lt (hN _ hbo).2
  refine xa_aload_n (pc := 24) dX8_yieldsName_24 rfl ?_
  refine xa_getA (pc := 25) 8 17 148 lfX8_59 dX8_yieldsName_25 xm_o rfl rfl rfl ?_
  refine xa_iload_n (pc := 28) dX8_yieldsName_28 rfl ?_
  refine xa_ialdN (pc := 29) s dX8_yieldsName_29 xm_148 rfl rfl (by show _ < 32; omega) (by decide) ?_
  refine xa_istore_n (pc := 30) dX8_yieldsName_30 (by decide) ?_
  refine xa_iconst (pc := 31) (v := 0) dX8_yieldsName_31 (by decide) ?_
  refine xa_istore (pc := 32) dX8_yieldsName_32 (by decide) ?_
  refine xa_aload_n (pc := 34) dX8_yieldsName_34 rfl ?_
  refine xa_getA (pc := 35) 8 2 133 lfX8_16 dX8_yieldsName_35 xm_o rfl rfl rfl ?_
  refine xa_iload_n (pc := 38) dX8_yieldsName_38 rfl ?_
  refine xa_ialdN (pc := 39) (xc (S 146 s)) dX8_yieldsName_39 xm_133 rfl (xa_in_eq (w5 s hsn)) (by show _ < 12; omega) (by decide) ?_
  refine xa_istore (pc := 40) dX8_yieldsName_40 (by decide) ?_
  exact xa_fgk (lm_yield42 E S hW hN hsn 0 (Nat.zero_le _) (S 148 s) false rfl) (And.intro rfl (And.intro rfl (And.intro rfl (And.intro rfl (And.intro rfl (And.intro (congrArg (fun z => some (Value.int z)) elo) trivial))))))
set_option maxHeartbeats 4000000 in
theorem cm_yieldsName (E : xa_EV) (S : xa_AH) {nh ns : Nat} (hW : xm_wf nh ns S) (hN : xm_nm nh S) {s : Nat} {xs : Int32} (es : xs = nI s) (hsn : s < ns) : xa_Ct E mX8_yieldsName [.ref 130, .int xs] xm_L S xm_R (xa_pV (xm_yld ns S s) xm_R) := by
  subst es
  refine xa_Ct.of [some (.ref 130), some (.int (nI s)), none, none, none, none] rfl (Nat.le_of_ble_eq_true rfl) (by simp [Value.category]) rfl ?_
  obtain ⟨w1, w2, w3, w4, w5⟩ := id hW
  refine xa_aload_n (pc := 0) dX8_yieldsName_0 rfl ?_
  refine xa_getA (pc := 1) 8 15 146 lfX8_53 dX8_yieldsName_1 xm_o rfl rfl rfl ?_
  refine xa_iload_n (pc := 4) dX8_yieldsName_4 rfl ?_
  refine xa_ialdN (pc := 5) s dX8_yieldsName_5 xm_146 rfl rfl (by show _ < 32; omega) (by decide) ?_
  refine xa_istore_n (pc := 6) dX8_yieldsName_6 (by decide) ?_
  refine xa_aload_n (pc := 7) dX8_yieldsName_7 rfl ?_
  refine xa_getA (pc := 8) 8 20 151 lfX8_68 dX8_yieldsName_8 xm_o rfl rfl rfl ?_
  refine xa_iload_n (pc := 11) dX8_yieldsName_11 rfl ?_
  refine xa_ialdN (pc := 12) s dX8_yieldsName_12 xm_151 rfl rfl (by show _ < 32; omega) (by decide) ?_
  refine xa_iconst (pc := 13) (v := 2) dX8_yieldsName_13 (by decide) ?_
  refine xa_icmp_ne (pc := 14) 24 dX8_yieldsName_14 (by decide) (fun h14 => ?_) (fun h14 => ?_)
  · rw [show xm_yld ns S s = xm_yl2 ns S s by rw [xm_yld, if_neg h14]]
    exact lm_yield24 E S hW hN hsn
  · refine xa_aload_n (pc := 17) dX8_yieldsName_17 rfl ?_
    refine xa_getA (pc := 18) 8 24 155 lfX8_80 dX8_yieldsName_18 xm_o rfl rfl rfl ?_
    refine xa_iload_n (pc := 21) dX8_yieldsName_21 rfl ?_
    refine xa_iconst (pc := 22) (v := 1) dX8_yieldsName_22 (by decide) ?_
    refine xa_zastN (pc := 23) s dX8_yieldsName_23 xm_155 rfl rfl (by show _ < 32; omega) (by decide) rfl ?_
    rw [show xm_yld ns S s = xm_yl2 ns (xa_up S 155 s 1) s by rw [xm_yld, if_pos h14]]
    exact lm_yield24 E (xa_up S 155 s 1) (xm_wf_up hW rfl) (xm_nm_up hN rfl) hsn
