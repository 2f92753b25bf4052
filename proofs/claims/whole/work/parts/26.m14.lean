def xm_record (nh ns : Nat) (S : xa_AH) (h s w : Int32) : Int32 := if (xm_isH nh h && (xm_isH ns s && decide (¬ S 158 (32 * xc h + xc s) = 0))) = true then (if w = 0 then S 159 (32 * xc h + xc s) else if w = 1 then S 160 (32 * xc h + xc s) else if w = 2 then S 162 (32 * xc h + xc s) - S 130 36 else if w = 3 then S 161 (32 * xc h + xc s) else -1) else -1
set_option maxHeartbeats 4000000 in
theorem cm_record (E : xa_EV) (S : xa_AH) {nh ns : Nat} (hW : xm_wf nh ns S) (h s w : Int32) : xa_Ct E mX8_record [.ref 130, .int h, .int s, .int w] xm_L S xm_R (xa_pR (.int (xm_record nh ns S h s w)) S xm_R) := by
  refine xa_Ct.of [some (.ref 130), some (.int h), some (.int s), some (.int w), none] rfl (Nat.le_of_ble_eq_true rfl) (by simp [Value.category]) rfl ?_
  obtain ⟨w1, w2, w3, w4, w5⟩ := id hW
  refine xa_aload_n (pc := 0) dX8_record_0 rfl ?_
  refine xa_iload_n (pc := 1) dX8_record_1 rfl ?_
  refine xa_callV (pc := 2) xm_o rfl rfl lcX8_163 dX8_record_2 (cm_isHost E _ hW _) rfl rfl (by decide) (Nat.le_of_ble_eq_true rfl) (by decide) ?_
  rintro _ _ _ ⟨rfl, rfl, rfl⟩
  refine xa_if_eq (pc := 5) 30 dX8_record_5 (by decide) (fun h5 => ?_) (fun h5 => ?_)
  · have h5 := xa_b_0.mp h5
    refine xa_iconst (pc := 30) (v := (-1)) dX8_record_30 (by decide) ?_
    rw [show xm_record nh ns S h s w = _ from if_neg (by simp [h5])]
    exact xa_zret dX8_record_31 rfl rfl ⟨rfl, rfl, rfl⟩
  · have h5 := xa_b_n0.mp h5
    have hv1 := (xm_isH_t (by omega)).mp h5
    have hb1 : xc h < nh := xa_in_lt hv1
    refine xa_aload_n (pc := 8) dX8_record_8 rfl ?_
    refine xa_iload_n (pc := 9) dX8_record_9 rfl ?_
    refine xa_callV (pc := 10) xm_o rfl rfl lcX8_194 dX8_record_10 (cm_isService E _ hW _) rfl rfl (by decide) (Nat.le_of_ble_eq_true rfl) (by decide) ?_
    rintro _ _ _ ⟨rfl, rfl, rfl⟩
    refine xa_if_eq (pc := 13) 30 dX8_record_13 (by decide) (fun h13 => ?_) (fun h13 => ?_)
    · have h13 := xa_b_0.mp h13
      refine xa_iconst (pc := 30) (v := (-1)) dX8_record_30 (by decide) ?_
      rw [show xm_record nh ns S h s w = _ from if_neg (by simp [h5, h13])]
      exact xa_zret dX8_record_31 rfl rfl ⟨rfl, rfl, rfl⟩
    · have h13 := xa_b_n0.mp h13
      have hv2 := (xm_isH_t (by omega)).mp h13
      have hb2 : xc s < ns := xa_in_lt hv2
      refine xa_aload_n (pc := 16) dX8_record_16 rfl ?_
      refine xa_getA (pc := 17) 8 27 158 lfX8_86 dX8_record_17 xm_o rfl rfl rfl ?_
      refine xa_bipush (pc := 20) (v := 32) dX8_record_20 (by decide) ?_
      refine xa_iload_n (pc := 22) dX8_record_22 rfl ?_
      refine xa_imul (pc := 23) dX8_record_23 ?_
      refine xa_iload_n (pc := 24) dX8_record_24 rfl ?_
      refine xa_iadd (pc := 25) dX8_record_25 ?_
      refine xa_zaldN (pc := 26) ((32 * (xc h)) + (xc s)) dX8_record_26 xm_158 rfl (xa_pa (xa_pm rfl (xa_in_eq hv1)) (xa_in_eq hv2)) (by show _ < 384; omega) (by decide) ?_
      refine xa_if_ne (pc := 27) 32 dX8_record_27 (by decide) (fun h27 => ?_) (fun h27 => ?_)
      · refine xa_bipush (pc := 32) (v := 32) dX8_record_32 (by decide) ?_
        refine xa_iload_n (pc := 34) dX8_record_34 rfl ?_
        refine xa_imul (pc := 35) dX8_record_35 ?_
        refine xa_iload_n (pc := 36) dX8_record_36 rfl ?_
        refine xa_iadd (pc := 37) dX8_record_37 ?_
        refine xa_istore (pc := 38) dX8_record_38 (by decide) ?_
        refine xa_iload_n (pc := 40) dX8_record_40 rfl ?_
        refine xa_if_ne (pc := 41) 54 dX8_record_41 (by decide) (fun h41 => ?_) (fun h41 => ?_)
        · refine xa_iload_n (pc := 54) dX8_record_54 rfl ?_
          refine xa_iconst (pc := 55) (v := 1) dX8_record_55 (by decide) ?_
          refine xa_icmp_ne (pc := 56) 69 dX8_record_56 (by decide) (fun h56 => ?_) (fun h56 => ?_)
          · refine xa_iload_n (pc := 69) dX8_record_69 rfl ?_
            refine xa_iconst (pc := 70) (v := 2) dX8_record_70 (by decide) ?_
            refine xa_icmp_ne (pc := 71) 89 dX8_record_71 (by decide) (fun h71 => ?_) (fun h71 => ?_)
            · refine xa_iload_n (pc := 89) dX8_record_89 rfl ?_
              refine xa_iconst (pc := 90) (v := 3) dX8_record_90 (by decide) ?_
              refine xa_icmp_ne (pc := 91) 104 dX8_record_91 (by decide) (fun h91 => ?_) (fun h91 => ?_)
              · refine xa_iconst (pc := 104) (v := (-1)) dX8_record_104 (by decide) ?_
                rw [show xm_record nh ns S h s w = _ from if_pos (by simp [h5, h13, h27])]
                exact xa_zret dX8_record_105 rfl rfl ⟨by simp [h41, h56, h71, h91], rfl, rfl⟩
              · refine xa_aload_n (pc := 94) dX8_record_94 rfl ?_
                refine xa_getA (pc := 95) 8 30 161 lfX8_95 dX8_record_95 xm_o rfl rfl rfl ?_
                refine xa_iload (pc := 98) dX8_record_98 rfl ?_
                refine xa_ialdN (pc := 100) ((32 * (xc h)) + (xc s)) dX8_record_100 xm_161 rfl (xa_pa (xa_pm rfl (xa_in_eq hv1)) (xa_in_eq hv2)) (by show _ < 384; omega) (by decide) ?_
                refine xa_goto (pc := 101) (tgt := 105) dX8_record_101 (by decide) ?_
                rw [show xm_record nh ns S h s w = _ from if_pos (by simp [h5, h13, h27])]
                exact xa_zret dX8_record_105 rfl rfl ⟨by simp [h41, h56, h71, h91], rfl, rfl⟩
            · refine xa_aload_n (pc := 74) dX8_record_74 rfl ?_
              refine xa_getA (pc := 75) 8 31 162 lfX8_98 dX8_record_75 xm_o rfl rfl rfl ?_
              refine xa_iload (pc := 78) dX8_record_78 rfl ?_
              refine xa_ialdN (pc := 80) ((32 * (xc h)) + (xc s)) dX8_record_80 xm_162 rfl (xa_pa (xa_pm rfl (xa_in_eq hv1)) (xa_in_eq hv2)) (by show _ < 384; omega) (by decide) ?_
              refine xa_aload_n (pc := 81) dX8_record_81 rfl ?_
              refine xa_getI (pc := 82) 8 36 lfX8_191 dX8_record_82 xm_o rfl rfl ?_
              refine xa_isub (pc := 85) dX8_record_85 ?_
              refine xa_goto (pc := 86) (tgt := 105) dX8_record_86 (by decide) ?_
              rw [show xm_record nh ns S h s w = _ from if_pos (by simp [h5, h13, h27])]
              exact xa_zret dX8_record_105 rfl rfl ⟨by simp [h41, h56, h71], rfl, rfl⟩
          · refine xa_aload_n (pc := 59) dX8_record_59 rfl ?_
            refine xa_getA (pc := 60) 8 29 160 lfX8_92 dX8_record_60 xm_o rfl rfl rfl ?_
            refine xa_iload (pc := 63) dX8_record_63 rfl ?_
            refine xa_ialdN (pc := 65) ((32 * (xc h)) + (xc s)) dX8_record_65 xm_160 rfl (xa_pa (xa_pm rfl (xa_in_eq hv1)) (xa_in_eq hv2)) (by show _ < 384; omega) (by decide) ?_
            refine xa_goto (pc := 66) (tgt := 105) dX8_record_66 (by decide) ?_
            rw [show xm_record nh ns S h s w = _ from if_pos (by simp [h5, h13, h27])]
            exact xa_zret dX8_record_105 rfl rfl ⟨by simp [h41, h56], rfl, rfl⟩
        · refine xa_aload_n (pc := 44) dX8_record_44 rfl ?_
          refine xa_getA (pc := 45) 8 28 159 lfX8_89 dX8_record_45 xm_o rfl rfl rfl ?_
          refine xa_iload (pc := 48) dX8_record_48 rfl ?_
          refine xa_ialdN (pc := 50) ((32 * (xc h)) + (xc s)) dX8_record_50 xm_159 rfl (xa_pa (xa_pm rfl (xa_in_eq hv1)) (xa_in_eq hv2)) (by show _ < 384; omega) (by decide) ?_
          refine xa_goto (pc := 51) (tgt := 105) dX8_record_51 (by decide) ?_
          rw [show xm_record nh ns S h s w = _ from if_pos (by simp [h5, h13, h27])]
          exact xa_zret dX8_record_105 rfl rfl ⟨by simp [h41], rfl, rfl⟩
      · refine xa_iconst (pc := 30) (v := (-1)) dX8_record_30 (by decide) ?_
        rw [show xm_record nh ns S h s w = _ from if_neg (by simp [h5, h13, h27])]
        exact xa_zret dX8_record_31 rfl rfl ⟨rfl, rfl, rfl⟩
def xm_sp1 (S : xa_AH) (s : Nat) (net : Int32) (h : Nat) : Bool := decide (S 136 h = 2) && (decide (S 131 h = net) && xm_spk S h s)
def xm_isp (nh : Nat) (S : xa_AH) (s : Nat) (net : Int32) : Bool := decide (S 151 s = 2) && (decide (S 156 s = 0) && xa_any (xm_sp1 S s net) nh)
set_option maxHeartbeats 4000000 in
theorem lm_isSpoken (E : xa_EV) (S : xa_AH) {nh ns : Nat} (hW : xm_wf nh ns S) {s : Nat} (hsn : s < ns) (net : Int32) : ∀ x, x ≤ nh → (∀ i, i < x → xm_sp1 S s net i = false) → ∀ T, T = S → xa_W E mX8_isSpoken (xa_Z E mX8_isSpoken xm_L (xa_pR (.int (xa_b (xa_any (xm_sp1 S s net) nh))) S xm_R)) 0 0 23 [some (.ref 130), some (.int (nI s)), some (.int net), some (.int (nI x))] [] xm_L T xm_R := by
  obtain ⟨w1, w2, w3, w4, w5⟩ := id hW
  refine xa_dn (fun x hs ih => ?_)
  intro hno T eT
  have hWT : xm_wf nh ns T := by rw [eT]; exact hW
  have w3 : T 130 14 = nI nh := by rw [eT]; exact w3
  refine xa_iload_n (pc := 23) dX8_isSpoken_23 rfl ?_
  refine xa_aload_n (pc := 24) dX8_isSpoken_24 rfl ?_
  refine xa_getI (pc := 25) 8 14 lfX8_155 dX8_isSpoken_25 xm_o rfl rfl ?_
  refine xa_icmpN_ge (pc := 28) 68 x nh dX8_isSpoken_28 (by decide) rfl w3 (by omega) (by omega) (fun h28 => ?_) (fun h28 => ?_)
  · have g28 : ¬ (x < nh) := by omega
    refine xa_iconst (pc := 68) (v := 0) dX8_isSpoken_68 (by decide) ?_
    have ex9 : x = nh := by omega
    subst ex9; subst eT
    exact xa_zret dX8_isSpoken_69 rfl (by decide) ⟨xa_r0 (xa_any_no.mpr hno), rfl, rfl⟩
  · refine xa_aload_n (pc := 31) dX8_isSpoken_31 rfl ?_
    refine xa_getA (pc := 32) 8 5 136 lfX8_25 dX8_isSpoken_32 xm_o rfl rfl rfl ?_
    refine xa_iload_n (pc := 35) dX8_isSpoken_35 rfl ?_
    refine xa_ialdN (pc := 36) x dX8_isSpoken_36 xm_136 rfl rfl (by show _ < 12; omega) (by decide) ?_
    refine xa_iconst (pc := 37) (v := 2) dX8_isSpoken_37 (by decide) ?_
    refine xa_icmp_ne (pc := 38) 62 dX8_isSpoken_38 (by decide) (fun h38 => ?_) (fun h38 => ?_)
    · refine xa_iinc (pc := 62) (v := nI (x + 1)) dX8_isSpoken_62 rfl (by decide) (nI_1 _) ?_
      refine xa_goto (pc := 65) (tgt := 23) dX8_isSpoken_65 (by decide) ?_
      subst eT; exact xa_fgk (ih (by omega) (xa_no_s hno (by simp [xm_sp1, h28, h38])) _ rfl) (And.intro rfl (And.intro rfl (And.intro rfl (And.intro rfl trivial))))
    · refine xa_aload_n (pc := 41) dX8_isSpoken_41 rfl ?_
      refine xa_getA (pc := 42) 8 0 131 lfX8_9 dX8_isSpoken_42 xm_o rfl rfl rfl ?_
      refine xa_iload_n (pc := 45) dX8_isSpoken_45 rfl ?_
      refine xa_ialdN (pc := 46) x dX8_isSpoken_46 xm_131 rfl rfl (by show _ < 12; omega) (by decide) ?_
      refine xa_iload_n (pc := 47) dX8_isSpoken_47 rfl ?_
      refine xa_icmp_ne (pc := 48) 62 dX8_isSpoken_48 (by decide) (fun h48 => ?_) (fun h48 => ?_)
      · refine xa_iinc (pc := 62) (v := nI (x + 1)) dX8_isSpoken_62 rfl (by decide) (nI_1 _) ?_
        refine xa_goto (pc := 65) (tgt := 23) dX8_isSpoken_65 (by decide) ?_
        subst eT; exact xa_fgk (ih (by omega) (xa_no_s hno (by simp [xm_sp1, h28, h38, h48])) _ rfl) (And.intro rfl (And.intro rfl (And.intro rfl (And.intro rfl trivial))))
      · refine xa_aload_n (pc := 51) dX8_isSpoken_51 rfl ?_
        refine xa_iload_n (pc := 52) dX8_isSpoken_52 rfl ?_
        refine xa_iload_n (pc := 53) dX8_isSpoken_53 rfl ?_
        refine xa_callV (pc := 54) xm_o rfl rfl lcX8_270 dX8_isSpoken_54 (cm_speaksFor E _ hWT rfl rfl (by omega) (by omega)) rfl rfl (by decide) (Nat.le_of_ble_eq_true rfl) (by decide) ?_
        rintro _ _ _ ⟨rfl, rfl, rfl⟩
        refine xa_if_eq (pc := 57) 62 dX8_isSpoken_57 (by decide) (fun h57 => ?_) (fun h57 => ?_)
        · have h57 := xa_b_0.mp h57
          refine xa_iinc (pc := 62) (v := nI (x + 1)) dX8_isSpoken_62 rfl (by decide) (nI_1 _) ?_
          refine xa_goto (pc := 65) (tgt := 23) dX8_isSpoken_65 (by decide) ?_
          subst eT; exact xa_fgk (ih (by omega) (xa_no_s hno (by simp [xm_sp1, h28, h38, h48, h57])) _ rfl) (And.intro rfl (And.intro rfl (And.intro rfl (And.intro rfl trivial))))
        · have h57 := xa_b_n0.mp h57
          refine xa_iconst (pc := 60) (v := 1) dX8_isSpoken_60 (by decide) ?_
          subst eT
          exact xa_zret dX8_isSpoken_61 rfl (by decide) ⟨xa_r1 (xa_any_yes (i := x) (by omega) (by simp [xm_sp1, h28, h38, h48, h57])), rfl, rfl⟩
set_option maxHeartbeats 4000000 in
theorem cm_isSpoken (E : xa_EV) (S : xa_AH) {nh ns : Nat} (hW : xm_wf nh ns S) {s : Nat} {xs : Int32} (es : xs = nI s) (hsn : s < ns) (net : Int32) : xa_Ct E mX8_isSpoken [.ref 130, .int xs, .int net] xm_L S xm_R (xa_pR (.int (xa_b (xm_isp nh S s net))) S xm_R) := by
  subst es
  refine xa_Ct.of [some (.ref 130), some (.int (nI s)), some (.int net), none] rfl (Nat.le_of_ble_eq_true rfl) (by simp [Value.category]) rfl ?_
  obtain ⟨w1, w2, w3, w4, w5⟩ := id hW
  refine xa_aload_n (pc := 0) dX8_isSpoken_0 rfl ?_
  refine xa_getA (pc := 1) 8 20 151 lfX8_68 dX8_isSpoken_1 xm_o rfl rfl rfl ?_
  refine xa_iload_n (pc := 4) dX8_isSpoken_4 rfl ?_
  refine xa_ialdN (pc := 5) s dX8_isSpoken_5 xm_151 rfl rfl (by show _ < 32; omega) (by decide) ?_
  refine xa_iconst (pc := 6) (v := 2) dX8_isSpoken_6 (by decide) ?_
  refine xa_icmp_ne (pc := 7) 19 dX8_isSpoken_7 (by decide) (fun h7 => ?_) (fun h7 => ?_)
  · refine xa_iconst (pc := 19) (v := 0) dX8_isSpoken_19 (by decide) ?_
    exact xa_zret dX8_isSpoken_20 rfl (by decide) ⟨xa_r0 (by simp [xm_isp, h7]), rfl, rfl⟩
  · refine xa_aload_n (pc := 10) dX8_isSpoken_10 rfl ?_
    refine xa_getA (pc := 11) 8 25 156 lfX8_83 dX8_isSpoken_11 xm_o rfl rfl rfl ?_
    refine xa_iload_n (pc := 14) dX8_isSpoken_14 rfl ?_
    refine xa_zaldN (pc := 15) s dX8_isSpoken_15 xm_156 rfl rfl (by show _ < 32; omega) (by decide) ?_
    refine xa_if_eq (pc := 16) 21 dX8_isSpoken_16 (by decide) (fun h16 => ?_) (fun h16 => ?_)
    · refine xa_iconst (pc := 21) (v := 0) dX8_isSpoken_21 (by decide) ?_
      refine xa_istore_n (pc := 22) dX8_isSpoken_22 (by decide) ?_
      rw [show xm_isp nh S s net = xa_any (xm_sp1 S s net) nh by simp [xm_isp, h7, h16]]
      exact lm_isSpoken E S hW hsn net 0 (Nat.zero_le _) (fun i hi => absurd hi (Nat.not_lt_zero i)) _ rfl
    · refine xa_iconst (pc := 19) (v := 0) dX8_isSpoken_19 (by decide) ?_
      exact xa_zret dX8_isSpoken_20 rfl (by decide) ⟨xa_r0 (by simp [xm_isp, h7, h16]), rfl, rfl⟩
