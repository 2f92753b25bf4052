def xm_b1 (S : xa_AH) (r k : Nat) : Bool := decide (¬ S 179 (16 * r + k) = 0)
def xm_b2 (S : xa_AH) (r s : Nat) : Bool := decide (0 < S 183 (32 * r + s)) || (decide (¬ S 185 (32 * r + s) = 0) || decide (0 < S 187 (32 * r + s)))
def xm_bare (S : xa_AH) (r : Nat) : Bool := !xa_any (xm_b1 S r) 16 && !xa_any (xm_b2 S r) 32
theorem xm_bare1 {S : xa_AH} {r k : Nat} (hk : k < 16) (h : xm_b1 S r k = true) : xm_bare S r = false := by rw [xm_bare, xa_any_yes hk h]; rfl
theorem xm_bare2 {S : xa_AH} {r s : Nat} (hs : s < 32) (h : xm_b2 S r s = true) : xm_bare S r = false := by rw [xm_bare, xa_any_yes hs h]; simp
theorem xm_bare3 {S : xa_AH} {r : Nat} (h1 : ∀ k, k < 16 → xm_b1 S r k = false) (h2 : ∀ s, s < 32 → xm_b2 S r s = false) : xm_bare S r = true := by rw [xm_bare, xa_any_no.mpr h1, xa_any_no.mpr h2]; rfl
theorem xa_nlt {x : Int32} (h : x ≤ 0) : ¬ 0 < x := fun g => by rw [fa_lt] at g; rw [fa_le] at h; omega
theorem xa_yle {x : Int32} (h : ¬ x ≤ 0) : 0 < x := by rw [fa_le] at h; rw [fa_lt]; omega
set_option maxHeartbeats 4000000 in
theorem lm_isBare2 (E : xa_EV) (S : xa_AH) {r : Nat} (hr : r < 48) (hno1 : ∀ k, k < 16 → xm_b1 S r k = false) : ∀ s, s ≤ 32 → (∀ i, i < s → xm_b2 S r i = false) → ∀ T, T = S → xa_W E mX8_isBare (xa_Z E mX8_isBare xm_L (xa_pR (.int (xa_b (xm_bare S r))) S xm_R)) 0 0 32 [some (.ref 130), some (.int (nI r)), some (.int (nI s))] [] xm_L T xm_R := by
  refine xa_dn (fun s hs ih => ?_)
  intro hno T eT
  refine xa_iload_n (pc := 32) dX8_isBare_32 rfl ?_
  refine xa_bipush (pc := 33) (v := 32) dX8_isBare_33 (by decide) ?_
  refine xa_icmpN_ge (pc := 35) 88 s 32 dX8_isBare_35 (by decide) rfl rfl (by omega) (by omega) (fun h35 => ?_) (fun h35 => ?_)
  · have g35 : ¬ (s < 32) := by omega
    refine xa_iconst (pc := 88) (v := 1) dX8_isBare_88 (by decide) ?_
    have es : s = 32 := by omega
    subst es; subst eT
    exact xa_zret dX8_isBare_89 rfl (by decide) ⟨xa_r1 (xm_bare3 hno1 hno), rfl, rfl⟩
  · refine xa_aload_n (pc := 38) dX8_isBare_38 rfl ?_
    refine xa_getA (pc := 39) 8 52 183 lfX8_131 dX8_isBare_39 xm_o rfl rfl rfl ?_
    refine xa_bipush (pc := 42) (v := 32) dX8_isBare_42 (by decide) ?_
    refine xa_iload_n (pc := 44) dX8_isBare_44 rfl ?_
    refine xa_imul (pc := 45) dX8_isBare_45 ?_
    refine xa_iload_n (pc := 46) dX8_isBare_46 rfl ?_
    refine xa_iadd (pc := 47) dX8_isBare_47 ?_
    refine xa_ialdN (pc := 48) ((32 * r) + s) dX8_isBare_48 xm_183 rfl (xa_pa (xa_pm rfl rfl) rfl) (by show _ < 1536; omega) (by decide) ?_
    refine xa_if_gt (pc := 49) 80 dX8_isBare_49 (by decide) (fun h49 => ?_) (fun h49 => ?_)
    · refine xa_iconst (pc := 80) (v := 0) dX8_isBare_80 (by decide) ?_
      subst eT
      exact xa_zret dX8_isBare_81 rfl (by decide) ⟨xa_r0 (xm_bare2 (s := s) (by omega) (by first | (simp [xm_b2, *]; done) | simp [xm_b2, xa_yle h77])), rfl, rfl⟩
    · refine xa_aload_n (pc := 52) dX8_isBare_52 rfl ?_
      refine xa_getA (pc := 53) 8 54 185 lfX8_137 dX8_isBare_53 xm_o rfl rfl rfl ?_
      refine xa_bipush (pc := 56) (v := 32) dX8_isBare_56 (by decide) ?_
      refine xa_iload_n (pc := 58) dX8_isBare_58 rfl ?_
      refine xa_imul (pc := 59) dX8_isBare_59 ?_
      refine xa_iload_n (pc := 60) dX8_isBare_60 rfl ?_
      refine xa_iadd (pc := 61) dX8_isBare_61 ?_
      refine xa_zaldN (pc := 62) ((32 * r) + s) dX8_isBare_62 xm_185 rfl (xa_pa (xa_pm rfl rfl) rfl) (by show _ < 1536; omega) (by decide) ?_
      refine xa_if_ne (pc := 63) 80 dX8_isBare_63 (by decide) (fun h63 => ?_) (fun h63 => ?_)
      · refine xa_iconst (pc := 80) (v := 0) dX8_isBare_80 (by decide) ?_
        subst eT
        exact xa_zret dX8_isBare_81 rfl (by decide) ⟨xa_r0 (xm_bare2 (s := s) (by omega) (by first | (simp [xm_b2, *]; done) | simp [xm_b2, xa_yle h77])), rfl, rfl⟩
      · refine xa_aload_n (pc := 66) dX8_isBare_66 rfl ?_
        refine xa_getA (pc := 67) 8 56 187 lfX8_143 dX8_isBare_67 xm_o rfl rfl rfl ?_
        refine xa_bipush (pc := 70) (v := 32) dX8_isBare_70 (by decide) ?_
        refine xa_iload_n (pc := 72) dX8_isBare_72 rfl ?_
        refine xa_imul (pc := 73) dX8_isBare_73 ?_
        refine xa_iload_n (pc := 74) dX8_isBare_74 rfl ?_
        refine xa_iadd (pc := 75) dX8_isBare_75 ?_
        refine xa_ialdN (pc := 76) ((32 * r) + s) dX8_isBare_76 xm_187 rfl (xa_pa (xa_pm rfl rfl) rfl) (by show _ < 1536; omega) (by decide) ?_
        refine xa_if_le (pc := 77) 82 dX8_isBare_77 (by decide) (fun h77 => ?_) (fun h77 => ?_)
        · refine xa_iinc (pc := 82) (v := nI (s + 1)) dX8_isBare_82 rfl (by decide) (nI_1 _) ?_
          refine xa_goto (pc := 85) (tgt := 32) dX8_isBare_85 (by decide) ?_
          subst eT; exact xa_fgk (ih (by omega) (xa_no_s hno (by simp [xm_b2, xa_nlt h77, *])) _ rfl) (And.intro rfl (And.intro rfl (And.intro rfl trivial)))
        · refine xa_iconst (pc := 80) (v := 0) dX8_isBare_80 (by decide) ?_
          subst eT
          exact xa_zret dX8_isBare_81 rfl (by decide) ⟨xa_r0 (xm_bare2 (s := s) (by omega) (by first | (simp [xm_b2, *]; done) | simp [xm_b2, xa_yle h77])), rfl, rfl⟩
set_option maxHeartbeats 4000000 in
theorem lm_isBare1 (E : xa_EV) (S : xa_AH) {r : Nat} (hr : r < 48)  : ∀ s, s ≤ 16 → (∀ i, i < s → xm_b1 S r i = false) → ∀ T, T = S → xa_W E mX8_isBare (xa_Z E mX8_isBare xm_L (xa_pR (.int (xa_b (xm_bare S r))) S xm_R)) 0 0 2 [some (.ref 130), some (.int (nI r)), some (.int (nI s))] [] xm_L T xm_R := by
  refine xa_dn (fun s hs ih => ?_)
  intro hno T eT
  refine xa_iload_n (pc := 2) dX8_isBare_2 rfl ?_
  refine xa_bipush (pc := 3) (v := 16) dX8_isBare_3 (by decide) ?_
  refine xa_icmpN_ge (pc := 5) 30 s 16 dX8_isBare_5 (by decide) rfl rfl (by omega) (by omega) (fun h5 => ?_) (fun h5 => ?_)
  · have g5 : ¬ (s < 16) := by omega
    refine xa_iconst (pc := 30) (v := 0) dX8_isBare_30 (by decide) ?_
    refine xa_istore_n (pc := 31) dX8_isBare_31 (by decide) ?_
    have es : s = 16 := by omega
    subst es; subst eT
    exact lm_isBare2 E _ hr hno 0 (Nat.zero_le _) (fun i hi => absurd hi (Nat.not_lt_zero i)) _ rfl
  · refine xa_aload_n (pc := 8) dX8_isBare_8 rfl ?_
    refine xa_getA (pc := 9) 8 48 179 lfX8_119 dX8_isBare_9 xm_o rfl rfl rfl ?_
    refine xa_bipush (pc := 12) (v := 16) dX8_isBare_12 (by decide) ?_
    refine xa_iload_n (pc := 14) dX8_isBare_14 rfl ?_
    refine xa_imul (pc := 15) dX8_isBare_15 ?_
    refine xa_iload_n (pc := 16) dX8_isBare_16 rfl ?_
    refine xa_iadd (pc := 17) dX8_isBare_17 ?_
    refine xa_zaldN (pc := 18) ((16 * r) + s) dX8_isBare_18 xm_179 rfl (xa_pa (xa_pm rfl rfl) rfl) (by show _ < 768; omega) (by decide) ?_
    refine xa_if_eq (pc := 19) 24 dX8_isBare_19 (by decide) (fun h19 => ?_) (fun h19 => ?_)
    · refine xa_iinc (pc := 24) (v := nI (s + 1)) dX8_isBare_24 rfl (by decide) (nI_1 _) ?_
      refine xa_goto (pc := 27) (tgt := 2) dX8_isBare_27 (by decide) ?_
      subst eT; exact xa_fgk (ih (by omega) (xa_no_s hno (by simp [xm_b1, *])) _ rfl) (And.intro rfl (And.intro rfl (And.intro rfl trivial)))
    · refine xa_iconst (pc := 22) (v := 0) dX8_isBare_22 (by decide) ?_
      subst eT
      exact xa_zret dX8_isBare_23 rfl (by decide) ⟨xa_r0 (xm_bare1 (k := s) (by omega) (by simp [xm_b1, *])), rfl, rfl⟩
set_option maxHeartbeats 4000000 in
theorem cm_isBare (E : xa_EV) (S : xa_AH) {r : Nat} {xr : Int32} (er : xr = nI r) (hr : r < 48) : xa_Ct E mX8_isBare [.ref 130, .int xr] xm_L S xm_R (xa_pR (.int (xa_b (xm_bare S r))) S xm_R) := by
  subst er
  refine xa_Ct.of [some (.ref 130), some (.int (nI r)), none] rfl (Nat.le_of_ble_eq_true rfl) (by simp [Value.category]) rfl ?_
  refine xa_iconst (pc := 0) (v := 0) dX8_isBare_0 (by decide) ?_
  refine xa_istore_n (pc := 1) dX8_isBare_1 (by decide) ?_
  exact lm_isBare1 E S hr 0 (Nat.zero_le _) (fun i hi => absurd hi (Nat.not_lt_zero i)) _ rfl
def xm_wr (S : xa_AH) (wr h : Nat) (net : Int32) : xa_AH := if xm_bare S wr = true then S else (xa_up (xa_up (xa_up (xa_up (xa_up (xa_up S 176 wr (nI h)) 177 wr net) 130 47 (S 130 47 + 1)) 142 h (S 142 h + 1)) 130 37 (S 130 37 + 1)) 130 43 (S 130 43 + 1))
set_option maxHeartbeats 4000000 in
theorem cm_writes (E : xa_EV) (S : xa_AH) {wr : Nat} (hwr : S 130 47 = nI wr) (hwl : wr < 24) {h : Nat} {xh : Int32} (eh : xh = nI h) (hh : h < 12) (net : Int32) : xa_Ct E mX8_writes [.ref 130, .int xh, .int net] xm_L S xm_R (xa_pV (xm_wr S wr h net) xm_R) := by
  subst eh
  refine xa_Ct.of [some (.ref 130), some (.int (nI h)), some (.int net)] rfl (Nat.le_of_ble_eq_true rfl) (by simp [Value.category]) rfl ?_
  refine xa_aload_n (pc := 0) dX8_writes_0 rfl ?_
  refine xa_aload_n (pc := 1) dX8_writes_1 rfl ?_
  refine xa_getI (pc := 2) 8 47 lfX8_225 dX8_writes_2 xm_o rfl rfl ?_
  refine xa_callV (pc := 5) xm_o rfl rfl lcX8_228 dX8_writes_5 (cm_isBare E _ hwr (by omega)) rfl rfl (by decide) (Nat.le_of_ble_eq_true rfl) (by decide) ?_
  rintro _ _ _ ⟨rfl, rfl, rfl⟩
  refine xa_if_eq (pc := 8) 12 dX8_writes_8 (by decide) (fun h8 => ?_) (fun h8 => ?_)
  · have h8 := xa_b_0.mp h8
    refine xa_aload_n (pc := 12) dX8_writes_12 rfl ?_
    refine xa_getA (pc := 13) 8 45 176 lfX8_113 dX8_writes_13 xm_o rfl rfl rfl ?_
    refine xa_aload_n (pc := 16) dX8_writes_16 rfl ?_
    refine xa_getI (pc := 17) 8 47 lfX8_225 dX8_writes_17 xm_o rfl rfl ?_
    refine xa_iload_n (pc := 20) dX8_writes_20 rfl ?_
    refine xa_iastN (pc := 21) wr dX8_writes_21 xm_176 rfl hwr (by show _ < 24; omega) (by decide) ?_
    refine xa_aload_n (pc := 22) dX8_writes_22 rfl ?_
    refine xa_getA (pc := 23) 8 46 177 lfX8_116 dX8_writes_23 xm_o rfl rfl rfl ?_
    refine xa_aload_n (pc := 26) dX8_writes_26 rfl ?_
    refine xa_getI (pc := 27) 8 47 lfX8_225 dX8_writes_27 xm_o rfl rfl ?_
    refine xa_iload_n (pc := 30) dX8_writes_30 rfl ?_
    refine xa_iastN (pc := 31) wr dX8_writes_31 xm_177 rfl hwr (by show _ < 24; omega) (by decide) ?_
    refine xa_aload_n (pc := 32) dX8_writes_32 rfl ?_
    refine xa_dup (pc := 33) dX8_writes_33 rfl ?_
    refine xa_getI (pc := 34) 8 47 lfX8_225 dX8_writes_34 xm_o rfl rfl ?_
    refine xa_iconst (pc := 37) (v := 1) dX8_writes_37 (by decide) ?_
    refine xa_iadd (pc := 38) dX8_writes_38 ?_
    refine xa_putI (pc := 39) 8 47 lpX8_225 dX8_writes_39 xm_o rfl rfl rfl rfl ?_
    refine xa_aload_n (pc := 42) dX8_writes_42 rfl ?_
    refine xa_getA (pc := 43) 8 11 142 lfX8_44 dX8_writes_43 xm_o rfl rfl rfl ?_
    refine xa_iload_n (pc := 46) dX8_writes_46 rfl ?_
    refine xa_dup2 (pc := 47) dX8_writes_47 rfl rfl ?_
    refine xa_ialdN (pc := 48) h dX8_writes_48 xm_142 rfl rfl (by show _ < 12; omega) (by decide) ?_
    refine xa_iconst (pc := 49) (v := 1) dX8_writes_49 (by decide) ?_
    refine xa_iadd (pc := 50) dX8_writes_50 ?_
    refine xa_iastN (pc := 51) h dX8_writes_51 xm_142 rfl rfl (by show _ < 12; omega) (by decide) ?_
    refine xa_aload_n (pc := 52) dX8_writes_52 rfl ?_
    refine xa_dup (pc := 53) dX8_writes_53 rfl ?_
    refine xa_getI (pc := 54) 8 37 lfX8_231 dX8_writes_54 xm_o rfl rfl ?_
    refine xa_iconst (pc := 57) (v := 1) dX8_writes_57 (by decide) ?_
    refine xa_iadd (pc := 58) dX8_writes_58 ?_
    refine xa_putI (pc := 59) 8 37 lpX8_231 dX8_writes_59 xm_o rfl rfl rfl rfl ?_
    refine xa_aload_n (pc := 62) dX8_writes_62 rfl ?_
    refine xa_dup (pc := 63) dX8_writes_63 rfl ?_
    refine xa_getI (pc := 64) 8 43 lfX8_234 dX8_writes_64 xm_o rfl rfl ?_
    refine xa_iconst (pc := 67) (v := 1) dX8_writes_67 (by decide) ?_
    refine xa_iadd (pc := 68) dX8_writes_68 ?_
    refine xa_putI (pc := 69) 8 43 lpX8_234 dX8_writes_69 xm_o rfl rfl rfl rfl ?_
    exact xa_vret dX8_writes_72 rfl ⟨rfl, by rw [xm_wr, h8]; rfl, rfl⟩
  · have h8 := xa_b_n0.mp h8
    exact xa_vret dX8_writes_11 rfl ⟨rfl, by rw [xm_wr, h8]; rfl, rfl⟩
def xm_spk (S : xa_AH) (h s : Nat) : Bool := decide (¬ S 151 s = 0) && (if S 146 s = nI h then decide (S 136 h = 2) else decide (S 151 s = 2) && (decide (S 136 (xc (S 146 s)) = 1) && decide (S 141 (xc (S 146 s)) = nI h)))
set_option maxHeartbeats 4000000 in
theorem cm_speaksFor (E : xa_EV) (S : xa_AH) {nh ns : Nat} (hW : xm_wf nh ns S) {h : Nat} {xh : Int32} (eh : xh = nI h) {s : Nat} {xs : Int32} (es : xs = nI s) (hh : h < 12) (hs : s < ns) : xa_Ct E mX8_speaksFor [.ref 130, .int xh, .int xs] xm_L S xm_R (xa_pR (.int (xa_b (xm_spk S h s))) S xm_R) := by
  subst eh; subst es
  refine xa_Ct.of [some (.ref 130), some (.int (nI h)), some (.int (nI s)), none] rfl (Nat.le_of_ble_eq_true rfl) (by simp [Value.category]) rfl ?_
  obtain ⟨w1, w2, w3, w4, w5⟩ := id hW
  refine xa_aload_n (pc := 0) dX8_speaksFor_0 rfl ?_
  refine xa_getA (pc := 1) 8 20 151 lfX8_68 dX8_speaksFor_1 xm_o rfl rfl rfl ?_
  refine xa_iload_n (pc := 4) dX8_speaksFor_4 rfl ?_
  refine xa_ialdN (pc := 5) s dX8_speaksFor_5 xm_151 rfl rfl (by show _ < 32; omega) (by decide) ?_
  refine xa_if_ne (pc := 6) 11 dX8_speaksFor_6 (by decide) (fun h6 => ?_) (fun h6 => ?_)
  · refine xa_aload_n (pc := 11) dX8_speaksFor_11 rfl ?_
    refine xa_getA (pc := 12) 8 15 146 lfX8_53 dX8_speaksFor_12 xm_o rfl rfl rfl ?_
    refine xa_iload_n (pc := 15) dX8_speaksFor_15 rfl ?_
    refine xa_ialdN (pc := 16) s dX8_speaksFor_16 xm_146 rfl rfl (by show _ < 32; omega) (by decide) ?_
    refine xa_istore_n (pc := 17) dX8_speaksFor_17 (by decide) ?_
    have hbo : xc (S 146 s) < nh := xa_in_lt (w5 s (by omega))
    refine xa_iload_n (pc := 18) dX8_speaksFor_18 rfl ?_
    refine xa_iload_n (pc := 19) dX8_speaksFor_19 rfl ?_
    refine xa_icmp_ne (pc := 20) 41 dX8_speaksFor_20 (by decide) (fun h20 => ?_) (fun h20 => ?_)
    · refine xa_aload_n (pc := 41) dX8_speaksFor_41 rfl ?_
      refine xa_getA (pc := 42) 8 20 151 lfX8_68 dX8_speaksFor_42 xm_o rfl rfl rfl ?_
      refine xa_iload_n (pc := 45) dX8_speaksFor_45 rfl ?_
      refine xa_ialdN (pc := 46) s dX8_speaksFor_46 xm_151 rfl rfl (by show _ < 32; omega) (by decide) ?_
      refine xa_iconst (pc := 47) (v := 2) dX8_speaksFor_47 (by decide) ?_
      refine xa_icmp_ne (pc := 48) 75 dX8_speaksFor_48 (by decide) (fun h48 => ?_) (fun h48 => ?_)
      · refine xa_iconst (pc := 75) (v := 0) dX8_speaksFor_75 (by decide) ?_
        exact xa_zret dX8_speaksFor_76 rfl (by decide) ⟨xa_r0 (by simp [xm_spk, *]), rfl, rfl⟩
      · refine xa_aload_n (pc := 51) dX8_speaksFor_51 rfl ?_
        refine xa_getA (pc := 52) 8 5 136 lfX8_25 dX8_speaksFor_52 xm_o rfl rfl rfl ?_
        refine xa_iload_n (pc := 55) dX8_speaksFor_55 rfl ?_
        refine xa_ialdN (pc := 56) (xc (S 146 s)) dX8_speaksFor_56 xm_136 rfl (xa_in_eq (w5 s (by omega))) (by show _ < 12; omega) (by decide) ?_
        refine xa_iconst (pc := 57) (v := 1) dX8_speaksFor_57 (by decide) ?_
        refine xa_icmp_ne (pc := 58) 75 dX8_speaksFor_58 (by decide) (fun h58 => ?_) (fun h58 => ?_)
        · refine xa_iconst (pc := 75) (v := 0) dX8_speaksFor_75 (by decide) ?_
          exact xa_zret dX8_speaksFor_76 rfl (by decide) ⟨xa_r0 (by simp [xm_spk, *]), rfl, rfl⟩
        · refine xa_aload_n (pc := 61) dX8_speaksFor_61 rfl ?_
          refine xa_getA (pc := 62) 8 10 141 lfX8_41 dX8_speaksFor_62 xm_o rfl rfl rfl ?_
          refine xa_iload_n (pc := 65) dX8_speaksFor_65 rfl ?_
          refine xa_ialdN (pc := 66) (xc (S 146 s)) dX8_speaksFor_66 xm_141 rfl (xa_in_eq (w5 s (by omega))) (by show _ < 12; omega) (by decide) ?_
          refine xa_iload_n (pc := 67) dX8_speaksFor_67 rfl ?_
          refine xa_icmp_ne (pc := 68) 75 dX8_speaksFor_68 (by decide) (fun h68 => ?_) (fun h68 => ?_)
          · refine xa_iconst (pc := 75) (v := 0) dX8_speaksFor_75 (by decide) ?_
            exact xa_zret dX8_speaksFor_76 rfl (by decide) ⟨xa_r0 (by simp [xm_spk, *]), rfl, rfl⟩
          · refine xa_iconst (pc := 71) (v := 1) dX8_speaksFor_71 (by decide) ?_
            refine xa_goto (pc := 72) (tgt := 76) dX8_speaksFor_72 (by decide) ?_
            exact xa_zret dX8_speaksFor_76 rfl (by decide) ⟨xa_r1 (by simp [xm_spk, *]), rfl, rfl⟩
    · refine xa_aload_n (pc := 23) dX8_speaksFor_23 rfl ?_
      refine xa_getA (pc := 24) 8 5 136 lfX8_25 dX8_speaksFor_24 xm_o rfl rfl rfl ?_
      refine xa_iload_n (pc := 27) dX8_speaksFor_27 rfl ?_
      refine xa_ialdN (pc := 28) h dX8_speaksFor_28 xm_136 rfl rfl (by show _ < 12; omega) (by decide) ?_
      refine xa_iconst (pc := 29) (v := 2) dX8_speaksFor_29 (by decide) ?_
      refine xa_icmp_ne (pc := 30) 37 dX8_speaksFor_30 (by decide) (fun h30 => ?_) (fun h30 => ?_)
      · refine xa_iconst (pc := 37) (v := 0) dX8_speaksFor_37 (by decide) ?_
        refine xa_goto (pc := 38) (tgt := 76) dX8_speaksFor_38 (by decide) ?_
        exact xa_zret dX8_speaksFor_76 rfl (by decide) ⟨xa_r0 (by simp [xm_spk, *]), rfl, rfl⟩
      · refine xa_iconst (pc := 33) (v := 1) dX8_speaksFor_33 (by decide) ?_
        refine xa_goto (pc := 34) (tgt := 76) dX8_speaksFor_34 (by decide) ?_
        exact xa_zret dX8_speaksFor_76 rfl (by decide) ⟨xa_r1 (by simp [xm_spk, *]), rfl, rfl⟩
  · refine xa_iconst (pc := 9) (v := 0) dX8_speaksFor_9 (by decide) ?_
    exact xa_zret dX8_speaksFor_10 rfl (by decide) ⟨xa_r0 (by simp [xm_spk, *]), rfl, rfl⟩
def xm_str (S : xa_AH) (a b : Nat) : Bool := if ¬ S 135 (xc (S 146 a)) = S 135 (xc (S 146 b)) then decide (¬ S 135 (xc (S 146 a)) ≤ S 135 (xc (S 146 b))) else if ¬ S 146 a = S 146 b then decide (¬ S 146 b ≤ S 146 a) else decide (a < b)
set_option maxHeartbeats 4000000 in
theorem cm_isStronger (E : xa_EV) (S : xa_AH) {nh ns : Nat} (hW : xm_wf nh ns S) {a : Nat} {xa : Int32} (ea : xa = nI a) {b : Nat} {xb : Int32} (eb : xb = nI b) (ha : a < ns) (hb : b < ns) : xa_Ct E mX8_isStronger [.ref 130, .int xa, .int xb] xm_L S xm_R (xa_pR (.int (xa_b (xm_str S a b))) S xm_R) := by
  subst ea; subst eb
  refine xa_Ct.of [some (.ref 130), some (.int (nI a)), some (.int (nI b)), none, none] rfl (Nat.le_of_ble_eq_true rfl) (by simp [Value.category]) rfl ?_
  obtain ⟨w1, w2, w3, w4, w5⟩ := id hW
  refine xa_aload_n (pc := 0) dX8_isStronger_0 rfl ?_
  refine xa_getA (pc := 1) 8 15 146 lfX8_53 dX8_isStronger_1 xm_o rfl rfl rfl ?_
  refine xa_iload_n (pc := 4) dX8_isStronger_4 rfl ?_
  refine xa_ialdN (pc := 5) a dX8_isStronger_5 xm_146 rfl rfl (by show _ < 32; omega) (by decide) ?_
  refine xa_istore_n (pc := 6) dX8_isStronger_6 (by decide) ?_
  refine xa_aload_n (pc := 7) dX8_isStronger_7 rfl ?_
  refine xa_getA (pc := 8) 8 15 146 lfX8_53 dX8_isStronger_8 xm_o rfl rfl rfl ?_
  refine xa_iload_n (pc := 11) dX8_isStronger_11 rfl ?_
  refine xa_ialdN (pc := 12) b dX8_isStronger_12 xm_146 rfl rfl (by show _ < 32; omega) (by decide) ?_
  refine xa_istore (pc := 13) dX8_isStronger_13 (by decide) ?_
  have hba : xc (S 146 a) < nh := xa_in_lt (w5 a (by omega))
  have hbb : xc (S 146 b) < nh := xa_in_lt (w5 b (by omega))
  refine xa_aload_n (pc := 15) dX8_isStronger_15 rfl ?_
  refine xa_getA (pc := 16) 8 4 135 lfX8_22 dX8_isStronger_16 xm_o rfl rfl rfl ?_
  refine xa_iload_n (pc := 19) dX8_isStronger_19 rfl ?_
  refine xa_ialdN (pc := 20) (xc (S 146 a)) dX8_isStronger_20 xm_135 rfl (xa_in_eq (w5 a (by omega))) (by show _ < 12; omega) (by decide) ?_
  refine xa_aload_n (pc := 21) dX8_isStronger_21 rfl ?_
  refine xa_getA (pc := 22) 8 4 135 lfX8_22 dX8_isStronger_22 xm_o rfl rfl rfl ?_
  refine xa_iload (pc := 25) dX8_isStronger_25 rfl ?_
  refine xa_ialdN (pc := 27) (xc (S 146 b)) dX8_isStronger_27 xm_135 rfl (xa_in_eq (w5 b (by omega))) (by show _ < 12; omega) (by decide) ?_
  refine xa_icmp_eq (pc := 28) 55 dX8_isStronger_28 (by decide) (fun h28 => ?_) (fun h28 => ?_)
  · refine xa_iload_n (pc := 55) dX8_isStronger_55 rfl ?_
    refine xa_iload (pc := 56) dX8_isStronger_56 rfl ?_
    refine xa_icmp_eq (pc := 58) 75 dX8_isStronger_58 (by decide) (fun h58 => ?_) (fun h58 => ?_)
    · refine xa_iload_n (pc := 75) dX8_isStronger_75 rfl ?_
      refine xa_iload_n (pc := 76) dX8_isStronger_76 rfl ?_
      refine xa_icmpN_ge (pc := 77) 84 a b dX8_isStronger_77 (by decide) rfl rfl (by omega) (by omega) (fun h77 => ?_) (fun h77 => ?_)
      · have g77 : ¬ (a < b) := by omega
        refine xa_iconst (pc := 84) (v := 0) dX8_isStronger_84 (by decide) ?_
        exact xa_zret dX8_isStronger_85 rfl (by decide) ⟨xa_r0 (by simp [xm_str, *]), rfl, rfl⟩
      · refine xa_iconst (pc := 80) (v := 1) dX8_isStronger_80 (by decide) ?_
        refine xa_goto (pc := 81) (tgt := 85) dX8_isStronger_81 (by decide) ?_
        exact xa_zret dX8_isStronger_85 rfl (by decide) ⟨xa_r1 (by simp [xm_str, *]), rfl, rfl⟩
    · refine xa_iload_n (pc := 61) dX8_isStronger_61 rfl ?_
      refine xa_iload (pc := 62) dX8_isStronger_62 rfl ?_
      refine xa_icmp_ge (pc := 64) 71 dX8_isStronger_64 (by decide) (fun h64 => ?_) (fun h64 => ?_)
      · refine xa_iconst (pc := 71) (v := 0) dX8_isStronger_71 (by decide) ?_
        refine xa_goto (pc := 72) (tgt := 85) dX8_isStronger_72 (by decide) ?_
        exact xa_zret dX8_isStronger_85 rfl (by decide) ⟨xa_r0 (by simp [xm_str, *]), rfl, rfl⟩
      · refine xa_iconst (pc := 67) (v := 1) dX8_isStronger_67 (by decide) ?_
        refine xa_goto (pc := 68) (tgt := 85) dX8_isStronger_68 (by decide) ?_
        exact xa_zret dX8_isStronger_85 rfl (by decide) ⟨xa_r1 (by simp [xm_str, *]), rfl, rfl⟩
  · refine xa_aload_n (pc := 31) dX8_isStronger_31 rfl ?_
    refine xa_getA (pc := 32) 8 4 135 lfX8_22 dX8_isStronger_32 xm_o rfl rfl rfl ?_
    refine xa_iload_n (pc := 35) dX8_isStronger_35 rfl ?_
    refine xa_ialdN (pc := 36) (xc (S 146 a)) dX8_isStronger_36 xm_135 rfl (xa_in_eq (w5 a (by omega))) (by show _ < 12; omega) (by decide) ?_
    refine xa_aload_n (pc := 37) dX8_isStronger_37 rfl ?_
    refine xa_getA (pc := 38) 8 4 135 lfX8_22 dX8_isStronger_38 xm_o rfl rfl rfl ?_
    refine xa_iload (pc := 41) dX8_isStronger_41 rfl ?_
    refine xa_ialdN (pc := 43) (xc (S 146 b)) dX8_isStronger_43 xm_135 rfl (xa_in_eq (w5 b (by omega))) (by show _ < 12; omega) (by decide) ?_
    refine xa_icmp_le (pc := 44) 51 dX8_isStronger_44 (by decide) (fun h44 => ?_) (fun h44 => ?_)
    · refine xa_iconst (pc := 51) (v := 0) dX8_isStronger_51 (by decide) ?_
      refine xa_goto (pc := 52) (tgt := 85) dX8_isStronger_52 (by decide) ?_
      exact xa_zret dX8_isStronger_85 rfl (by decide) ⟨xa_r0 (by simp [xm_str, *]), rfl, rfl⟩
    · refine xa_iconst (pc := 47) (v := 1) dX8_isStronger_47 (by decide) ?_
      refine xa_goto (pc := 48) (tgt := 85) dX8_isStronger_48 (by decide) ?_
      exact xa_zret dX8_isStronger_85 rfl (by decide) ⟨xa_r1 (by simp [xm_str, *]), rfl, rfl⟩
def xm_kp (S : xa_AH) (h : Nat) (k t : Int32) (s : Nat) : Bool := decide (¬ S 158 (32 * h + s) = 0) && (decide (S 147 s = k) && decide (¬ 2 * (S 162 (32 * h + s) - t) ≤ S 161 (32 * h + s)))
def xm_bits (q : Nat → Bool) : Nat → Int32
  | 0 => 0
  | s + 1 => if q s = true then xm_bits q s ||| (1 <<< (nI s &&& 31)) else xm_bits q s
theorem xm_bits_y {q : Nat → Bool} {s : Nat} (h : q s = true) : some (Value.int (xm_bits q s ||| (1 <<< (nI s &&& 31)))) = some (Value.int (xm_bits q (s + 1))) := by rw [xm_bits, if_pos h]
theorem xm_bits_n {q : Nat → Bool} {s : Nat} (h : q s = false) : some (Value.int (xm_bits q s)) = some (Value.int (xm_bits q (s + 1))) := by rw [xm_bits, h]; rfl
def xm_kn (ns : Nat) (S : xa_AH) (h : Nat) (k t : Int32) : Int32 := xm_bits (xm_kp S h k t) ns
set_option maxHeartbeats 4000000 in
theorem lm_knownTo (E : xa_EV) (S : xa_AH) {nh ns : Nat} (hW : xm_wf nh ns S) {h : Nat} (hh : h < 12) (k t : Int32) : ∀ s, s ≤ ns → ∀ T, T = S → xa_W E mX8_knownTo (xa_Z E mX8_knownTo xm_L (xa_pR (.int (xm_kn ns S h k t)) S xm_R)) 0 0 6 [some (.ref 130), some (.int (nI h)), some (.int k), some (.int t), some (.int (xm_bits (xm_kp S h k t) s)), some (.int (nI s)), none] [] xm_L T xm_R := by
  obtain ⟨w1, w2, w3, w4, w5⟩ := id hW
  refine xa_dn (fun s hs ih => ?_)
  intro T eT
  have w4 : T 130 26 = nI ns := by rw [eT]; exact w4
  refine xa_iload (pc := 6) dX8_knownTo_6 rfl ?_
  refine xa_aload_n (pc := 8) dX8_knownTo_8 rfl ?_
  refine xa_getI (pc := 9) 8 26 lfX8_170 dX8_knownTo_9 xm_o rfl rfl ?_
  refine xa_icmpN_ge (pc := 12) 81 s ns dX8_knownTo_12 (by decide) rfl w4 (by omega) (by omega) (fun h12 => ?_) (fun h12 => ?_)
  · have g12 : ¬ (s < ns) := by omega
    refine xa_iload (pc := 81) dX8_knownTo_81 rfl ?_
    have es : s = ns := by omega
    subst es; subst eT
    exact xa_zret dX8_knownTo_83 rfl rfl ⟨rfl, rfl, rfl⟩
  · refine xa_bipush (pc := 15) (v := 32) dX8_knownTo_15 (by decide) ?_
    refine xa_iload_n (pc := 17) dX8_knownTo_17 rfl ?_
    refine xa_imul (pc := 18) dX8_knownTo_18 ?_
    refine xa_iload (pc := 19) dX8_knownTo_19 rfl ?_
    refine xa_iadd (pc := 21) dX8_knownTo_21 ?_
    refine xa_istore (pc := 22) dX8_knownTo_22 (by decide) ?_
    refine xa_aload_n (pc := 24) dX8_knownTo_24 rfl ?_
    refine xa_getA (pc := 25) 8 27 158 lfX8_86 dX8_knownTo_25 xm_o rfl rfl rfl ?_
    refine xa_iload (pc := 28) dX8_knownTo_28 rfl ?_
    refine xa_zaldN (pc := 30) ((32 * h) + s) dX8_knownTo_30 xm_158 rfl (xa_pa (xa_pm rfl rfl) rfl) (by show _ < 384; omega) (by decide) ?_
    refine xa_if_eq (pc := 31) 75 dX8_knownTo_31 (by decide) (fun h31 => ?_) (fun h31 => ?_)
    · refine xa_iinc (pc := 75) (v := nI (s + 1)) dX8_knownTo_75 rfl (by decide) (nI_1 _) ?_
      refine xa_goto (pc := 78) (tgt := 6) dX8_knownTo_78 (by decide) ?_
      subst eT; exact xa_fgk (ih (by omega) _ rfl) (And.intro rfl (And.intro rfl (And.intro rfl (And.intro rfl (And.intro (by first | exact xm_bits_y (by simp [xm_kp, *]) | exact xm_bits_n (by simp [xm_kp, *])) (And.intro rfl trivial))))))
    · refine xa_aload_n (pc := 34) dX8_knownTo_34 rfl ?_
      refine xa_getA (pc := 35) 8 16 147 lfX8_56 dX8_knownTo_35 xm_o rfl rfl rfl ?_
      refine xa_iload (pc := 38) dX8_knownTo_38 rfl ?_
      refine xa_ialdN (pc := 40) s dX8_knownTo_40 xm_147 rfl rfl (by show _ < 32; omega) (by decide) ?_
      refine xa_iload_n (pc := 41) dX8_knownTo_41 rfl ?_
      refine xa_icmp_ne (pc := 42) 75 dX8_knownTo_42 (by decide) (fun h42 => ?_) (fun h42 => ?_)
      · refine xa_iinc (pc := 75) (v := nI (s + 1)) dX8_knownTo_75 rfl (by decide) (nI_1 _) ?_
        refine xa_goto (pc := 78) (tgt := 6) dX8_knownTo_78 (by decide) ?_
        subst eT; exact xa_fgk (ih (by omega) _ rfl) (And.intro rfl (And.intro rfl (And.intro rfl (And.intro rfl (And.intro (by first | exact xm_bits_y (by simp [xm_kp, *]) | exact xm_bits_n (by simp [xm_kp, *])) (And.intro rfl trivial))))))
      · refine xa_iconst (pc := 45) (v := 2) dX8_knownTo_45 (by decide) ?_
        refine xa_aload_n (pc := 46) dX8_knownTo_46 rfl ?_
        refine xa_getA (pc := 47) 8 31 162 lfX8_98 dX8_knownTo_47 xm_o rfl rfl rfl ?_
        refine xa_iload (pc := 50) dX8_knownTo_50 rfl ?_
        refine xa_ialdN (pc := 52) ((32 * h) + s) dX8_knownTo_52 xm_162 rfl (xa_pa (xa_pm rfl rfl) rfl) (by show _ < 384; omega) (by decide) ?_
        refine xa_iload_n (pc := 53) dX8_knownTo_53 rfl ?_
        refine xa_isub (pc := 54) dX8_knownTo_54 ?_
        refine xa_imul (pc := 55) dX8_knownTo_55 ?_
        refine xa_aload_n (pc := 56) dX8_knownTo_56 rfl ?_
        refine xa_getA (pc := 57) 8 30 161 lfX8_95 dX8_knownTo_57 xm_o rfl rfl rfl ?_
        refine xa_iload (pc := 60) dX8_knownTo_60 rfl ?_
        refine xa_ialdN (pc := 62) ((32 * h) + s) dX8_knownTo_62 xm_161 rfl (xa_pa (xa_pm rfl rfl) rfl) (by show _ < 384; omega) (by decide) ?_
        refine xa_icmp_le (pc := 63) 75 dX8_knownTo_63 (by decide) (fun h63 => ?_) (fun h63 => ?_)
        · refine xa_iinc (pc := 75) (v := nI (s + 1)) dX8_knownTo_75 rfl (by decide) (nI_1 _) ?_
          refine xa_goto (pc := 78) (tgt := 6) dX8_knownTo_78 (by decide) ?_
          subst eT; exact xa_fgk (ih (by omega) _ rfl) (And.intro rfl (And.intro rfl (And.intro rfl (And.intro rfl (And.intro (by first | exact xm_bits_y (by simp [xm_kp, *]) | exact xm_bits_n (by simp [xm_kp, *])) (And.intro rfl trivial))))))
        · refine xa_iload (pc := 66) dX8_knownTo_66 rfl ?_
          refine xa_iconst (pc := 68) (v := 1) dX8_knownTo_68 (by decide) ?_
          refine xa_iload (pc := 69) dX8_knownTo_69 rfl ?_
          refine xa_ishl (pc := 71) dX8_knownTo_71 ?_
          refine xa_ior (pc := 72) dX8_knownTo_72 ?_
          refine xa_istore (pc := 73) dX8_knownTo_73 (by decide) ?_
          refine xa_iinc (pc := 75) (v := nI (s + 1)) dX8_knownTo_75 rfl (by decide) (nI_1 _) ?_
          refine xa_goto (pc := 78) (tgt := 6) dX8_knownTo_78 (by decide) ?_
          subst eT; exact xa_fgk (ih (by omega) _ rfl) (And.intro rfl (And.intro rfl (And.intro rfl (And.intro rfl (And.intro (by first | exact xm_bits_y (by simp [xm_kp, *]) | exact xm_bits_n (by simp [xm_kp, *])) (And.intro rfl trivial))))))
set_option maxHeartbeats 4000000 in
theorem cm_knownTo (E : xa_EV) (S : xa_AH) {nh ns : Nat} (hW : xm_wf nh ns S) {h : Nat} {xh : Int32} (eh : xh = nI h) (hh : h < 12) (k t : Int32) : xa_Ct E mX8_knownTo [.ref 130, .int xh, .int k, .int t] xm_L S xm_R (xa_pR (.int (xm_kn ns S h k t)) S xm_R) := by
  subst eh
  refine xa_Ct.of [some (.ref 130), some (.int (nI h)), some (.int k), some (.int t), none, none, none] rfl (Nat.le_of_ble_eq_true rfl) (by simp [Value.category]) rfl ?_
  obtain ⟨w1, w2, w3, w4, w5⟩ := id hW
  refine xa_iconst (pc := 0) (v := 0) dX8_knownTo_0 (by decide) ?_
  refine xa_istore (pc := 1) dX8_knownTo_1 (by decide) ?_
  refine xa_iconst (pc := 3) (v := 0) dX8_knownTo_3 (by decide) ?_
  refine xa_istore (pc := 4) dX8_knownTo_4 (by decide) ?_
  exact lm_knownTo E S hW hh k t 0 (Nat.zero_le _) _ rfl
def xm_due (S : xa_AH) (h s : Nat) (at0 : Int32) : xa_AH := if S 163 (32 * h + s) = -1 ∨ ¬ S 163 (32 * h + s) ≤ at0 then xa_up S 163 (32 * h + s) at0 else S
set_option maxHeartbeats 4000000 in
theorem cm_isDue (E : xa_EV) (S : xa_AH) {h : Nat} {xh : Int32} (eh : xh = nI h) {s : Nat} {xs : Int32} (es : xs = nI s) (hh : h < 12) (hs : s < 32) (at0 : Int32) : xa_Ct E mX8_isDue [.ref 130, .int xh, .int xs, .int at0] xm_L S xm_R (xa_pV (xm_due S h s at0) xm_R) := by
  subst eh; subst es
  refine xa_Ct.of [some (.ref 130), some (.int (nI h)), some (.int (nI s)), some (.int at0), none] rfl (Nat.le_of_ble_eq_true rfl) (by simp [Value.category]) rfl ?_
  refine xa_bipush (pc := 0) (v := 32) dX8_isDue_0 (by decide) ?_
  refine xa_iload_n (pc := 2) dX8_isDue_2 rfl ?_
  refine xa_imul (pc := 3) dX8_isDue_3 ?_
  refine xa_iload_n (pc := 4) dX8_isDue_4 rfl ?_
  refine xa_iadd (pc := 5) dX8_isDue_5 ?_
  refine xa_istore (pc := 6) dX8_isDue_6 (by decide) ?_
  refine xa_aload_n (pc := 8) dX8_isDue_8 rfl ?_
  refine xa_getA (pc := 9) 8 32 163 lfX8_101 dX8_isDue_9 xm_o rfl rfl rfl ?_
  refine xa_iload (pc := 12) dX8_isDue_12 rfl ?_
  refine xa_ialdN (pc := 14) ((32 * h) + s) dX8_isDue_14 xm_163 rfl (xa_pa (xa_pm rfl rfl) rfl) (by show _ < 384; omega) (by decide) ?_
  refine xa_iconst (pc := 15) (v := (-1)) dX8_isDue_15 (by decide) ?_
  refine xa_icmp_eq (pc := 16) 30 dX8_isDue_16 (by decide) (fun h16 => ?_) (fun h16 => ?_)
  · refine xa_aload_n (pc := 30) dX8_isDue_30 rfl ?_
    refine xa_getA (pc := 31) 8 32 163 lfX8_101 dX8_isDue_31 xm_o rfl rfl rfl ?_
    refine xa_iload (pc := 34) dX8_isDue_34 rfl ?_
    refine xa_iload_n (pc := 36) dX8_isDue_36 rfl ?_
    refine xa_iastN (pc := 37) ((32 * h) + s) dX8_isDue_37 xm_163 rfl (xa_pa (xa_pm rfl rfl) rfl) (by show _ < 384; omega) (by decide) ?_
    exact xa_vret dX8_isDue_38 rfl ⟨rfl, by simp [xm_due, *], rfl⟩
  · refine xa_aload_n (pc := 19) dX8_isDue_19 rfl ?_
    refine xa_getA (pc := 20) 8 32 163 lfX8_101 dX8_isDue_20 xm_o rfl rfl rfl ?_
    refine xa_iload (pc := 23) dX8_isDue_23 rfl ?_
    refine xa_ialdN (pc := 25) ((32 * h) + s) dX8_isDue_25 xm_163 rfl (xa_pa (xa_pm rfl rfl) rfl) (by show _ < 384; omega) (by decide) ?_
    refine xa_iload_n (pc := 26) dX8_isDue_26 rfl ?_
    refine xa_icmp_le (pc := 27) 38 dX8_isDue_27 (by decide) (fun h27 => ?_) (fun h27 => ?_)
    · exact xa_vret dX8_isDue_38 rfl ⟨rfl, by simp [xm_due, *], rfl⟩
    · refine xa_aload_n (pc := 30) dX8_isDue_30 rfl ?_
      refine xa_getA (pc := 31) 8 32 163 lfX8_101 dX8_isDue_31 xm_o rfl rfl rfl ?_
      refine xa_iload (pc := 34) dX8_isDue_34 rfl ?_
      refine xa_iload_n (pc := 36) dX8_isDue_36 rfl ?_
      refine xa_iastN (pc := 37) ((32 * h) + s) dX8_isDue_37 xm_163 rfl (xa_pa (xa_pm rfl rfl) rfl) (by show _ < 384; omega) (by decide) ?_
      exact xa_vret dX8_isDue_38 rfl ⟨rfl, by simp [xm_due, *], rfl⟩
