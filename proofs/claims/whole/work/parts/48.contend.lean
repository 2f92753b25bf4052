theorem yld_a {ns : Nat} {S : xa_AH} {s a : Nat} (h1 : a ≠ 130) (h2 : a ≠ 136) (h3 : a ≠ 141) (h4 : a < 148 ∨ 155 < a) : xm_yld ns S s a = S a := by
  rw [yld_e, yl4_a h2 h3 h1, up_o h1, up_o (by omega), up_o (by omega), up_o (by omega), up_o (by omega), up_o (by omega), up_o (by omega)]
theorem yl4_130 {S : xa_AH} {x y : Nat} (h : y ≠ 42) : xm_yl4 S x 130 y = S 130 y := by
  unfold xm_yl4 xm_wakes; split
  · rw [up_k h, up_o (by decide), up_o (by decide)]
  · rfl
theorem yld_36 {ns : Nat} {S : xa_AH} {s : Nat} : xm_yld ns S s 130 36 = S 130 36 := by
  rw [yld_e, yl4_130 (by decide)]; rfl
theorem yld_136 {ns : Nat} {S : xa_AH} {s y : Nat} (h : S 136 y = 2) : xm_yld ns S s 136 y = 2 := by
  rw [yld_e]; apply yl4_136; exact h
theorem due_a {S : xa_AH} {h s a : Nat} {t : Int32} (n : a ≠ 163) : xm_due S h s t a = S a := by
  unfold xm_due; split
  · exact up_o n
  · rfl
theorem t1_in {t : Int32} (h : vp_in t 30001) : vp_in (t + 1) 30300 := by
  have h1 := vp_in_iff.mp h
  have e : t = nI (xc t) := xa_in_eq h
  have l : xc t < 30001 := xa_in_lt h
  rw [e, nI_1]; exact vp_in_nI (by omega) (by decide)
theorem fl_due {T T2 : xa_AH} {h s : Nat} {t : Int32} (g : fl T T2) : fl T (cx_due T2 h s t) := by
  unfold cx_due; split
  · exact fl_up (fl_up g (by decide) (by decide)) (by decide) (by decide)
  · exact g
set_option maxHeartbeats 4000000 in
theorem lx_contend0 (E : xa_EV) {L : List Nat} {T0 : xa_AH} {R : xa_AR} {nh ns k : Nat} {pw : Nat → Nat} {S : xa_AH} {h s : Nat} (hh : h < nh) (hs : s < ns) (n t : Int32) : ∀ x, x ≤ ns → ∀ T U, RX nh ns k pw L T R U → U = xa_lp (xm_hc1 ns h s n t) x S → U 136 h = 2 → U 130 36 = t → fl T0 T → xa_W E mX7_contend (xa_Z E mX7_contend L (PF nh ns k pw L T0 R (xa_lp (xm_hc1 ns h s n t) ns S))) 0 0 3 [some (.ref (ci 0 129)), some (.ref (ci h 0)), some (.ref (ci s 128)), some (.int n), some (.int 0), some (.int (nI x)), none, none, none] [] L T R := by
  refine xa_dn (fun x hx ih => ?_)
  intro T U hX eU ha hnow hfl
  have n12 := hX.n12
  have n32 := hX.n32
  refine xa_iload (pc := 3) dX7_contend_3 rfl ?_
  refine xa_aload_n (pc := 5) dX7_contend_5 rfl ?_
  refine xa_getIv (pc := 6) 7 3 _ lfX7_103 dX7_contend_6 hX.c_m129 (kd_129 _) rfl hX.g_ns ?_
  refine xa_icmpN_ge (pc := 9) 161 x ns dX7_contend_9 (by decide) rfl rfl (by omega) (by omega) (fun h9 => ?_) (fun h9 => ?_)
  · have g9 : ¬ (x < ns) := by omega
    have ex : x = ns := by omega
    subst ex
    exact xa_vret dX7_contend_161 rfl ⟨rfl, rfl, by rw [← eU]; exact hX, hfl⟩
  · refine xa_aload_n (pc := 12) dX7_contend_12 rfl ?_
    refine xa_getA (pc := 13) 7 1 (ci 0 127) lfX7_17 dX7_contend_13 hX.c_m129 (kd_129 _) rfl hX.c_r1 ?_
    refine xa_iload (pc := 16) dX7_contend_16 rfl ?_
    refine xa_aaldS (pc := 18) x (ci x 128) dX7_contend_18 hX.c_m127 rfl (by omega) (hX.sA (by omega)) ?_
    refine xa_astore (pc := 19) dX7_contend_19 (by decide) ?_
    refine xa_aload (pc := 21) dX7_contend_21 rfl ?_
    refine xa_getIv (pc := 23) 5 5 _ lfX7_201 dX7_contend_23 (hX.sM (by omega)) (kd_128 _) rfl (hX.s_name (by omega)) ?_
    refine xa_iload_n (pc := 26) dX7_contend_26 rfl ?_
    refine xa_icmp_ne (pc := 27) 48 dX7_contend_27 (by decide) (fun h27 => ?_) (fun h27 => ?_)
    · refine xa_iconst (pc := 48) (v := 0) dX7_contend_48 (by decide) ?_
      refine xa_istore (pc := 49) dX7_contend_49 (by decide) ?_
      refine xa_iload (pc := 51) dX7_contend_51 rfl ?_
      refine xa_if_eq (pc := 53) 155 dX7_contend_53 (by decide) (fun _ => ?_) (fun hc => absurd hc (by decide))
      refine xa_iinc (pc := 155) (v := nI (x + 1)) dX7_contend_155 rfl (by decide) (nI_1 _) ?_
      refine xa_goto (pc := 158) (tgt := 3) dX7_contend_158 (by decide) ?_
      exact xa_fgk (ih (by omega) _ _ hX (by rw [xa_lp, ← eU]; simp [xm_hc1, h9, h27]) ha hnow hfl) (And.intro rfl (And.intro rfl (And.intro rfl (And.intro rfl (And.intro rfl (And.intro rfl trivial))))))
    · refine xa_aload (pc := 30) dX7_contend_30 rfl ?_
      refine xa_aload_n (pc := 32) dX7_contend_32 rfl ?_
      refine xa_acmpC_eq (pc := 33) 48 (x := (ci x 128)) (y := (ci s 128)) dX7_contend_33 (by decide) (hX.sM (by omega)) (hX.sM hs) (fun h33 => ?_) (fun h33 => ?_)
      · have h33 := ci_i.mp h33
        refine xa_iconst (pc := 48) (v := 0) dX7_contend_48 (by decide) ?_
        refine xa_istore (pc := 49) dX7_contend_49 (by decide) ?_
        refine xa_iload (pc := 51) dX7_contend_51 rfl ?_
        refine xa_if_eq (pc := 53) 155 dX7_contend_53 (by decide) (fun _ => ?_) (fun hc => absurd hc (by decide))
        refine xa_iinc (pc := 155) (v := nI (x + 1)) dX7_contend_155 rfl (by decide) (nI_1 _) ?_
        refine xa_goto (pc := 158) (tgt := 3) dX7_contend_158 (by decide) ?_
        exact xa_fgk (ih (by omega) _ _ hX (by rw [xa_lp, ← eU]; simp [xm_hc1, h9, h27, h33]) ha hnow hfl) (And.intro rfl (And.intro rfl (And.intro rfl (And.intro rfl (And.intro rfl (And.intro rfl trivial))))))
      · have h33 : ¬ (x = s) := fun q => h33 (ci_i.mpr q)
        refine xa_aload (pc := 36) dX7_contend_36 rfl ?_
        refine xa_getIv (pc := 38) 5 4 _ lfX7_265 dX7_contend_38 (hX.sM (by omega)) (kd_128 _) rfl (hX.s_isFalse (by omega)) ?_
        refine xa_if_ne (pc := 41) 48 dX7_contend_41 (by decide) (fun h41 => ?_) (fun h41 => ?_)
        · refine xa_iconst (pc := 48) (v := 0) dX7_contend_48 (by decide) ?_
          refine xa_istore (pc := 49) dX7_contend_49 (by decide) ?_
          refine xa_iload (pc := 51) dX7_contend_51 rfl ?_
          refine xa_if_eq (pc := 53) 155 dX7_contend_53 (by decide) (fun _ => ?_) (fun hc => absurd hc (by decide))
          refine xa_iinc (pc := 155) (v := nI (x + 1)) dX7_contend_155 rfl (by decide) (nI_1 _) ?_
          refine xa_goto (pc := 158) (tgt := 3) dX7_contend_158 (by decide) ?_
          exact xa_fgk (ih (by omega) _ _ hX (by rw [xa_lp, ← eU]; simp [xm_hc1, h9, h27, h33, h41]) ha hnow hfl) (And.intro rfl (And.intro rfl (And.intro rfl (And.intro rfl (And.intro rfl (And.intro rfl trivial))))))
        · refine xa_iconst (pc := 44) (v := 1) dX7_contend_44 (by decide) ?_
          refine xa_goto (pc := 45) (tgt := 49) dX7_contend_45 (by decide) ?_
          refine xa_istore (pc := 49) dX7_contend_49 (by decide) ?_
          refine xa_iload (pc := 51) dX7_contend_51 rfl ?_
          refine xa_if_eq (pc := 53) 155 dX7_contend_53 (by decide) (fun hc => absurd hc (by decide)) (fun _ => ?_)
          refine xa_aload_n (pc := 56) dX7_contend_56 rfl ?_
          refine xa_aload_n (pc := 57) dX7_contend_57 rfl ?_
          refine xa_aload (pc := 58) dX7_contend_58 rfl ?_
          refine xa_callV (pc := 60) hX.c_m129 (kd_129 _) rfl lcX7_331 dX7_contend_60 (cx_speaksFor E hX hh ha (by omega)) rfl rfl (by decide) (Nat.le_of_ble_eq_true rfl) (by decide) ?_
          rintro _ _ _ ⟨rfl, rfl, rfl⟩
          refine xa_if_eq (pc := 63) 155 dX7_contend_63 (by decide) (fun h63 => ?_) (fun h63 => ?_)
          · have h63 := xa_b_0.mp h63
            refine xa_iinc (pc := 155) (v := nI (x + 1)) dX7_contend_155 rfl (by decide) (nI_1 _) ?_
            refine xa_goto (pc := 158) (tgt := 3) dX7_contend_158 (by decide) ?_
            exact xa_fgk (ih (by omega) _ _ hX (by rw [xa_lp, ← eU]; simp [xm_hc1, h9, h27, h33, h41, h63]) ha hnow hfl) (And.intro rfl (And.intro rfl (And.intro rfl (And.intro rfl (And.intro rfl (And.intro rfl trivial))))))
          · have h63 := xa_b_n0.mp h63
            refine xa_aload_n (pc := 66) dX7_contend_66 rfl ?_
            refine xa_aload_n (pc := 67) dX7_contend_67 rfl ?_
            refine xa_aload (pc := 68) dX7_contend_68 rfl ?_
            refine xa_callV (pc := 70) hX.c_m129 (kd_129 _) rfl lcX7_450 dX7_contend_70 (cx_isStronger E hX hs (by omega)) rfl rfl (by decide) (Nat.le_of_ble_eq_true rfl) (by decide) ?_
            rintro _ _ _ ⟨rfl, rfl, rfl⟩
            refine xa_istore (pc := 73) dX7_contend_73 (by decide) ?_
            refine xa_aload (pc := 75) dX7_contend_75 rfl ?_
            refine xa_getIv (pc := 77) 5 7 _ lfX7_59 dX7_contend_77 (hX.sM (by omega)) (kd_128 _) rfl (hX.s_state (by omega)) ?_
            refine xa_iconst (pc := 80) (v := 1) dX7_contend_80 (by decide) ?_
            refine xa_icmp_ne (pc := 81) 103 dX7_contend_81 (by decide) (fun h81 => ?_) (fun h81 => ?_)
            · refine xa_aload (pc := 103) dX7_contend_103 rfl ?_
              refine xa_getIv (pc := 105) 5 7 _ lfX7_59 dX7_contend_105 (hX.sM (by omega)) (kd_128 _) rfl (hX.s_state (by omega)) ?_
              refine xa_iconst (pc := 108) (v := 2) dX7_contend_108 (by decide) ?_
              refine xa_icmp_ne (pc := 109) 131 dX7_contend_109 (by decide) (fun h109 => ?_) (fun h109 => ?_)
              · refine xa_aload (pc := 131) dX7_contend_131 rfl ?_
                refine xa_getIv (pc := 133) 5 7 _ lfX7_59 dX7_contend_133 (hX.sM (by omega)) (kd_128 _) rfl (hX.s_state (by omega)) ?_
                refine xa_iconst (pc := 136) (v := 2) dX7_contend_136 (by decide) ?_
                refine xa_icmp_ne (pc := 137) 155 dX7_contend_137 (by decide) (fun h137 => ?_) (fun h137 => ?_)
                · refine xa_iinc (pc := 155) (v := nI (x + 1)) dX7_contend_155 rfl (by decide) (nI_1 _) ?_
                  refine xa_goto (pc := 158) (tgt := 3) dX7_contend_158 (by decide) ?_
                  have hz : U 151 x = 0 := by
                    rcases hX.is_is (s := x) (by omega) with q | q | q
                    · exact q
                    · exact absurd q h81
                    · exact absurd q h137
                  exfalso; simp [xm_spk, hz] at h63
                · refine xa_aload_n (pc := 140) dX7_contend_140 rfl ?_
                  refine xa_getA (pc := 141) 3 6 (ci h 9) lfX7_143 dX7_contend_141 ((hX.hS hh).1 0 (by decide)) (kd_0 _) rfl ((hX.hS hh).2 (0, 6, 9) (by decide)) ?_
                  refine xa_iload (pc := 144) dX7_contend_144 rfl ?_
                  refine xa_aload_n (pc := 146) dX7_contend_146 rfl ?_
                  refine xa_getIv (pc := 147) 7 4 _ lfX7_62 dX7_contend_147 hX.c_m129 (kd_129 _) rfl hX.g_now ?_
                  refine xa_iconst (pc := 150) (v := 1) dX7_contend_150 (by decide) ?_
                  refine xa_iadd (pc := 151) dX7_contend_151 ?_
                  refine xa_callV (pc := 152) ((hX.hS hh).1 9 (by decide)) (kd_9 _) rfl lcX7_434 dX7_contend_152 (cx_comeDue E (hX.hS hh) (s := x) rfl (by omega) _) rfl rfl (by decide) (Nat.le_of_ble_eq_true rfl) (by decide) ?_
                  rintro _ _ _ ⟨rfl, rfl, rfl⟩
                  refine xa_iinc (pc := 155) (v := nI (x + 1)) dX7_contend_155 rfl (by decide) (nI_1 _) ?_
                  refine xa_goto (pc := 158) (tgt := 3) dX7_contend_158 (by decide) ?_
                  rw [hnow]
                  exact xa_fgk (ih (by omega) _ _ (rx_due hX hh (by omega) (t1_in (hnow ▸ hX.ig_t))) (by rw [xa_lp, ← eU]; first | (simp [xm_hc1, h9, h27, h33, h41, h63, h81, h109, h137]; done) | (exfalso; first | exact h109 h137 | exact absurd (h81.symm.trans h137) (by decide))) (by rw [due_a (by decide)]; exact ha) (by rw [due_a (by decide)]; exact hnow) (fl_due hfl)) (And.intro rfl (And.intro rfl (And.intro rfl (And.intro rfl (And.intro rfl (And.intro rfl trivial))))))
              · refine xa_iload (pc := 112) dX7_contend_112 rfl ?_
                refine xa_if_eq (pc := 114) 131 dX7_contend_114 (by decide) (fun _ => ?_) (fun hc => absurd hc (by decide))
                refine xa_aload (pc := 131) dX7_contend_131 rfl ?_
                refine xa_getIv (pc := 133) 5 7 _ lfX7_59 dX7_contend_133 (hX.sM (by omega)) (kd_128 _) rfl (hX.s_state (by omega)) ?_
                refine xa_iconst (pc := 136) (v := 2) dX7_contend_136 (by decide) ?_
                refine xa_icmp_ne (pc := 137) 155 dX7_contend_137 (by decide) (fun h137 => ?_) (fun h137 => ?_)
                · refine xa_iinc (pc := 155) (v := nI (x + 1)) dX7_contend_155 rfl (by decide) (nI_1 _) ?_
                  refine xa_goto (pc := 158) (tgt := 3) dX7_contend_158 (by decide) ?_
                  have hz : U 151 x = 0 := by
                    rcases hX.is_is (s := x) (by omega) with q | q | q
                    · exact q
                    · exact absurd q h81
                    · exact absurd q h137
                  exfalso; simp [xm_spk, hz] at h63
                · refine xa_aload_n (pc := 140) dX7_contend_140 rfl ?_
                  refine xa_getA (pc := 141) 3 6 (ci h 9) lfX7_143 dX7_contend_141 ((hX.hS hh).1 0 (by decide)) (kd_0 _) rfl ((hX.hS hh).2 (0, 6, 9) (by decide)) ?_
                  refine xa_iload (pc := 144) dX7_contend_144 rfl ?_
                  refine xa_aload_n (pc := 146) dX7_contend_146 rfl ?_
                  refine xa_getIv (pc := 147) 7 4 _ lfX7_62 dX7_contend_147 hX.c_m129 (kd_129 _) rfl hX.g_now ?_
                  refine xa_iconst (pc := 150) (v := 1) dX7_contend_150 (by decide) ?_
                  refine xa_iadd (pc := 151) dX7_contend_151 ?_
                  refine xa_callV (pc := 152) ((hX.hS hh).1 9 (by decide)) (kd_9 _) rfl lcX7_434 dX7_contend_152 (cx_comeDue E (hX.hS hh) (s := x) rfl (by omega) _) rfl rfl (by decide) (Nat.le_of_ble_eq_true rfl) (by decide) ?_
                  rintro _ _ _ ⟨rfl, rfl, rfl⟩
                  refine xa_iinc (pc := 155) (v := nI (x + 1)) dX7_contend_155 rfl (by decide) (nI_1 _) ?_
                  refine xa_goto (pc := 158) (tgt := 3) dX7_contend_158 (by decide) ?_
                  rw [hnow]
                  exact xa_fgk (ih (by omega) _ _ (rx_due hX hh (by omega) (t1_in (hnow ▸ hX.ig_t))) (by rw [xa_lp, ← eU]; first | (simp [xm_hc1, h9, h27, h33, h41, h63, h81, h109, h137]; done) | (exfalso; first | exact h109 h137 | exact absurd (h81.symm.trans h137) (by decide))) (by rw [due_a (by decide)]; exact ha) (by rw [due_a (by decide)]; exact hnow) (fl_due hfl)) (And.intro rfl (And.intro rfl (And.intro rfl (And.intro rfl (And.intro rfl (And.intro rfl trivial))))))
            · refine xa_iload (pc := 84) dX7_contend_84 rfl ?_
              refine xa_if_ne (pc := 86) 94 dX7_contend_86 (by decide) (fun hc => absurd hc (by decide)) (fun _ => ?_)
              refine xa_iload (pc := 89) dX7_contend_89 rfl ?_
              refine xa_if_eq (pc := 91) 103 dX7_contend_91 (by decide) (fun h91 => ?_) (fun h91 => ?_)
              · have h91 := xa_b_0.mp h91
                refine xa_aload (pc := 103) dX7_contend_103 rfl ?_
                refine xa_getIv (pc := 105) 5 7 _ lfX7_59 dX7_contend_105 (hX.sM (by omega)) (kd_128 _) rfl (hX.s_state (by omega)) ?_
                refine xa_iconst (pc := 108) (v := 2) dX7_contend_108 (by decide) ?_
                refine xa_icmp_ne (pc := 109) 131 dX7_contend_109 (by decide) (fun h109 => ?_) (fun h109 => ?_)
                · refine xa_aload (pc := 131) dX7_contend_131 rfl ?_
                  refine xa_getIv (pc := 133) 5 7 _ lfX7_59 dX7_contend_133 (hX.sM (by omega)) (kd_128 _) rfl (hX.s_state (by omega)) ?_
                  refine xa_iconst (pc := 136) (v := 2) dX7_contend_136 (by decide) ?_
                  refine xa_icmp_ne (pc := 137) 155 dX7_contend_137 (by decide) (fun h137 => ?_) (fun h137 => ?_)
                  · refine xa_iinc (pc := 155) (v := nI (x + 1)) dX7_contend_155 rfl (by decide) (nI_1 _) ?_
                    refine xa_goto (pc := 158) (tgt := 3) dX7_contend_158 (by decide) ?_
                    exact xa_fgk (ih (by omega) _ _ hX (by rw [xa_lp, ← eU]; simp [xm_hc1, h9, h27, h33, h41, h63, h81, h91, h109, h137]) ha hnow hfl) (And.intro rfl (And.intro rfl (And.intro rfl (And.intro rfl (And.intro rfl (And.intro rfl trivial))))))
                  · refine xa_aload_n (pc := 140) dX7_contend_140 rfl ?_
                    refine xa_getA (pc := 141) 3 6 (ci h 9) lfX7_143 dX7_contend_141 ((hX.hS hh).1 0 (by decide)) (kd_0 _) rfl ((hX.hS hh).2 (0, 6, 9) (by decide)) ?_
                    refine xa_iload (pc := 144) dX7_contend_144 rfl ?_
                    refine xa_aload_n (pc := 146) dX7_contend_146 rfl ?_
                    refine xa_getIv (pc := 147) 7 4 _ lfX7_62 dX7_contend_147 hX.c_m129 (kd_129 _) rfl hX.g_now ?_
                    refine xa_iconst (pc := 150) (v := 1) dX7_contend_150 (by decide) ?_
                    refine xa_iadd (pc := 151) dX7_contend_151 ?_
                    refine xa_callV (pc := 152) ((hX.hS hh).1 9 (by decide)) (kd_9 _) rfl lcX7_434 dX7_contend_152 (cx_comeDue E (hX.hS hh) (s := x) rfl (by omega) _) rfl rfl (by decide) (Nat.le_of_ble_eq_true rfl) (by decide) ?_
                    rintro _ _ _ ⟨rfl, rfl, rfl⟩
                    refine xa_iinc (pc := 155) (v := nI (x + 1)) dX7_contend_155 rfl (by decide) (nI_1 _) ?_
                    refine xa_goto (pc := 158) (tgt := 3) dX7_contend_158 (by decide) ?_
                    rw [hnow]
                    exact xa_fgk (ih (by omega) _ _ (rx_due hX hh (by omega) (t1_in (hnow ▸ hX.ig_t))) (by rw [xa_lp, ← eU]; first | (simp [xm_hc1, h9, h27, h33, h41, h63, h81, h91, h109, h137]; done) | (exfalso; first | exact h109 h137 | exact absurd (h81.symm.trans h137) (by decide))) (by rw [due_a (by decide)]; exact ha) (by rw [due_a (by decide)]; exact hnow) (fl_due hfl)) (And.intro rfl (And.intro rfl (And.intro rfl (And.intro rfl (And.intro rfl (And.intro rfl trivial))))))
                · refine xa_iload (pc := 112) dX7_contend_112 rfl ?_
                  refine xa_if_eq (pc := 114) 131 dX7_contend_114 (by decide) (fun _ => ?_) (fun hc => absurd hc (by decide))
                  refine xa_aload (pc := 131) dX7_contend_131 rfl ?_
                  refine xa_getIv (pc := 133) 5 7 _ lfX7_59 dX7_contend_133 (hX.sM (by omega)) (kd_128 _) rfl (hX.s_state (by omega)) ?_
                  refine xa_iconst (pc := 136) (v := 2) dX7_contend_136 (by decide) ?_
                  refine xa_icmp_ne (pc := 137) 155 dX7_contend_137 (by decide) (fun h137 => ?_) (fun h137 => ?_)
                  · refine xa_iinc (pc := 155) (v := nI (x + 1)) dX7_contend_155 rfl (by decide) (nI_1 _) ?_
                    refine xa_goto (pc := 158) (tgt := 3) dX7_contend_158 (by decide) ?_
                    exact xa_fgk (ih (by omega) _ _ hX (by rw [xa_lp, ← eU]; simp [xm_hc1, h9, h27, h33, h41, h63, h81, h91, h109, h137]) ha hnow hfl) (And.intro rfl (And.intro rfl (And.intro rfl (And.intro rfl (And.intro rfl (And.intro rfl trivial))))))
                  · refine xa_aload_n (pc := 140) dX7_contend_140 rfl ?_
                    refine xa_getA (pc := 141) 3 6 (ci h 9) lfX7_143 dX7_contend_141 ((hX.hS hh).1 0 (by decide)) (kd_0 _) rfl ((hX.hS hh).2 (0, 6, 9) (by decide)) ?_
                    refine xa_iload (pc := 144) dX7_contend_144 rfl ?_
                    refine xa_aload_n (pc := 146) dX7_contend_146 rfl ?_
                    refine xa_getIv (pc := 147) 7 4 _ lfX7_62 dX7_contend_147 hX.c_m129 (kd_129 _) rfl hX.g_now ?_
                    refine xa_iconst (pc := 150) (v := 1) dX7_contend_150 (by decide) ?_
                    refine xa_iadd (pc := 151) dX7_contend_151 ?_
                    refine xa_callV (pc := 152) ((hX.hS hh).1 9 (by decide)) (kd_9 _) rfl lcX7_434 dX7_contend_152 (cx_comeDue E (hX.hS hh) (s := x) rfl (by omega) _) rfl rfl (by decide) (Nat.le_of_ble_eq_true rfl) (by decide) ?_
                    rintro _ _ _ ⟨rfl, rfl, rfl⟩
                    refine xa_iinc (pc := 155) (v := nI (x + 1)) dX7_contend_155 rfl (by decide) (nI_1 _) ?_
                    refine xa_goto (pc := 158) (tgt := 3) dX7_contend_158 (by decide) ?_
                    rw [hnow]
                    exact xa_fgk (ih (by omega) _ _ (rx_due hX hh (by omega) (t1_in (hnow ▸ hX.ig_t))) (by rw [xa_lp, ← eU]; first | (simp [xm_hc1, h9, h27, h33, h41, h63, h81, h91, h109, h137]; done) | (exfalso; first | exact h109 h137 | exact absurd (h81.symm.trans h137) (by decide))) (by rw [due_a (by decide)]; exact ha) (by rw [due_a (by decide)]; exact hnow) (fl_due hfl)) (And.intro rfl (And.intro rfl (And.intro rfl (And.intro rfl (And.intro rfl (And.intro rfl trivial))))))
              · have h91 := xa_b_n0.mp h91
                refine xa_aload_n (pc := 94) dX7_contend_94 rfl ?_
                refine xa_aload (pc := 95) dX7_contend_95 rfl ?_
                refine xa_callV (pc := 97) hX.c_m129 (kd_129 _) rfl lcX7_460 dX7_contend_97 (cx_giveWay E hX (by omega) (by simp [h9, h27, h33, h41, h63, h81, h91]) (by assumption)) rfl rfl (by decide) (Nat.le_of_ble_eq_true rfl) (by decide) ?_
                rintro _ _ _ ⟨rfl, rfl, hX2, hfl2⟩
                refine xa_goto (pc := 100) (tgt := 155) dX7_contend_100 (by decide) ?_
                refine xa_iinc (pc := 155) (v := nI (x + 1)) dX7_contend_155 rfl (by decide) (nI_1 _) ?_
                refine xa_goto (pc := 158) (tgt := 3) dX7_contend_158 (by decide) ?_
                exact xa_fgk (ih (by omega) _ _ hX2 (by rw [xa_lp, ← eU]; simp [xm_hc1, h9, h27, h33, h41, h63, h81, h91]) (yld_136 ha) (yld_36.trans hnow) (fl_tr hfl hfl2)) (And.intro rfl (And.intro rfl (And.intro rfl (And.intro rfl (And.intro rfl (And.intro rfl trivial))))))
set_option maxHeartbeats 4000000 in
theorem cx_contend0 (E : xa_EV) {L : List Nat} {T : xa_AH} {R : xa_AR} {nh ns k : Nat} {pw : Nat → Nat} {S : xa_AH} (hX : RX nh ns k pw L T R S) {h s : Nat} (hh : h < nh) (ha : S 136 h = 2) (hs : s < ns) (n : Int32) : xa_Ct E mX7_contend [.ref (ci 0 129), .ref (ci h 0), .ref (ci s 128), .int n, .int 0] L T R (PF nh ns k pw L T R (xa_lp (xm_hc1 ns h s n (S 130 36)) ns S)) := by
  refine xa_Ct.of [some (.ref (ci 0 129)), some (.ref (ci h 0)), some (.ref (ci s 128)), some (.int n), some (.int 0), none, none, none, none] rfl (Nat.le_of_ble_eq_true rfl) (by simp [Value.category]) rfl ?_
  have n12 := hX.n12
  have n32 := hX.n32
  refine xa_iconst (pc := 0) (v := 0) dX7_contend_0 (by decide) ?_
  refine xa_istore (pc := 1) dX7_contend_1 (by decide) ?_
  exact lx_contend0 E hh hs n (S 130 36) 0 (Nat.zero_le _) _ _ hX rfl ha rfl fl_rf
set_option maxHeartbeats 4000000 in
theorem lx_contend1 (E : xa_EV) {L : List Nat} {T0 : xa_AH} {R : xa_AR} {nh ns k : Nat} {pw : Nat → Nat} {S : xa_AH} {h s : Nat} (hh : h < nh) (hs : s < ns) (n t : Int32) : ∀ x, x ≤ ns → ∀ T U, RX nh ns k pw L T R U → U = xa_lp (xm_ht1 ns h s n t) x S → U 136 h = 2 → U 130 36 = t → fl T0 T → xa_W E mX7_contend (xa_Z E mX7_contend L (PF nh ns k pw L T0 R (xa_lp (xm_ht1 ns h s n t) ns S))) 0 0 3 [some (.ref (ci 0 129)), some (.ref (ci h 0)), some (.ref (ci s 128)), some (.int n), some (.int 1), some (.int (nI x)), none, none, none] [] L T R := by
  refine xa_dn (fun x hx ih => ?_)
  intro T U hX eU ha hnow hfl
  have n12 := hX.n12
  have n32 := hX.n32
  refine xa_iload (pc := 3) dX7_contend_3 rfl ?_
  refine xa_aload_n (pc := 5) dX7_contend_5 rfl ?_
  refine xa_getIv (pc := 6) 7 3 _ lfX7_103 dX7_contend_6 hX.c_m129 (kd_129 _) rfl hX.g_ns ?_
  refine xa_icmpN_ge (pc := 9) 161 x ns dX7_contend_9 (by decide) rfl rfl (by omega) (by omega) (fun h9 => ?_) (fun h9 => ?_)
  · have g9 : ¬ (x < ns) := by omega
    have ex : x = ns := by omega
    subst ex
    exact xa_vret dX7_contend_161 rfl ⟨rfl, rfl, by rw [← eU]; exact hX, hfl⟩
  · refine xa_aload_n (pc := 12) dX7_contend_12 rfl ?_
    refine xa_getA (pc := 13) 7 1 (ci 0 127) lfX7_17 dX7_contend_13 hX.c_m129 (kd_129 _) rfl hX.c_r1 ?_
    refine xa_iload (pc := 16) dX7_contend_16 rfl ?_
    refine xa_aaldS (pc := 18) x (ci x 128) dX7_contend_18 hX.c_m127 rfl (by omega) (hX.sA (by omega)) ?_
    refine xa_astore (pc := 19) dX7_contend_19 (by decide) ?_
    refine xa_aload (pc := 21) dX7_contend_21 rfl ?_
    refine xa_getIv (pc := 23) 5 5 _ lfX7_201 dX7_contend_23 (hX.sM (by omega)) (kd_128 _) rfl (hX.s_name (by omega)) ?_
    refine xa_iload_n (pc := 26) dX7_contend_26 rfl ?_
    refine xa_icmp_ne (pc := 27) 48 dX7_contend_27 (by decide) (fun h27 => ?_) (fun h27 => ?_)
    · refine xa_iconst (pc := 48) (v := 0) dX7_contend_48 (by decide) ?_
      refine xa_istore (pc := 49) dX7_contend_49 (by decide) ?_
      refine xa_iload (pc := 51) dX7_contend_51 rfl ?_
      refine xa_if_eq (pc := 53) 155 dX7_contend_53 (by decide) (fun _ => ?_) (fun hc => absurd hc (by decide))
      refine xa_iinc (pc := 155) (v := nI (x + 1)) dX7_contend_155 rfl (by decide) (nI_1 _) ?_
      refine xa_goto (pc := 158) (tgt := 3) dX7_contend_158 (by decide) ?_
      exact xa_fgk (ih (by omega) _ _ hX (by rw [xa_lp, ← eU]; simp [xm_ht1, h9, h27]) ha hnow hfl) (And.intro rfl (And.intro rfl (And.intro rfl (And.intro rfl (And.intro rfl (And.intro rfl trivial))))))
    · refine xa_aload (pc := 30) dX7_contend_30 rfl ?_
      refine xa_aload_n (pc := 32) dX7_contend_32 rfl ?_
      refine xa_acmpC_eq (pc := 33) 48 (x := (ci x 128)) (y := (ci s 128)) dX7_contend_33 (by decide) (hX.sM (by omega)) (hX.sM hs) (fun h33 => ?_) (fun h33 => ?_)
      · have h33 := ci_i.mp h33
        refine xa_iconst (pc := 48) (v := 0) dX7_contend_48 (by decide) ?_
        refine xa_istore (pc := 49) dX7_contend_49 (by decide) ?_
        refine xa_iload (pc := 51) dX7_contend_51 rfl ?_
        refine xa_if_eq (pc := 53) 155 dX7_contend_53 (by decide) (fun _ => ?_) (fun hc => absurd hc (by decide))
        refine xa_iinc (pc := 155) (v := nI (x + 1)) dX7_contend_155 rfl (by decide) (nI_1 _) ?_
        refine xa_goto (pc := 158) (tgt := 3) dX7_contend_158 (by decide) ?_
        exact xa_fgk (ih (by omega) _ _ hX (by rw [xa_lp, ← eU]; simp [xm_ht1, h9, h27, h33]) ha hnow hfl) (And.intro rfl (And.intro rfl (And.intro rfl (And.intro rfl (And.intro rfl (And.intro rfl trivial))))))
      · have h33 : ¬ (x = s) := fun q => h33 (ci_i.mpr q)
        refine xa_aload (pc := 36) dX7_contend_36 rfl ?_
        refine xa_getIv (pc := 38) 5 4 _ lfX7_265 dX7_contend_38 (hX.sM (by omega)) (kd_128 _) rfl (hX.s_isFalse (by omega)) ?_
        refine xa_if_ne (pc := 41) 48 dX7_contend_41 (by decide) (fun h41 => ?_) (fun h41 => ?_)
        · refine xa_iconst (pc := 48) (v := 0) dX7_contend_48 (by decide) ?_
          refine xa_istore (pc := 49) dX7_contend_49 (by decide) ?_
          refine xa_iload (pc := 51) dX7_contend_51 rfl ?_
          refine xa_if_eq (pc := 53) 155 dX7_contend_53 (by decide) (fun _ => ?_) (fun hc => absurd hc (by decide))
          refine xa_iinc (pc := 155) (v := nI (x + 1)) dX7_contend_155 rfl (by decide) (nI_1 _) ?_
          refine xa_goto (pc := 158) (tgt := 3) dX7_contend_158 (by decide) ?_
          exact xa_fgk (ih (by omega) _ _ hX (by rw [xa_lp, ← eU]; simp [xm_ht1, h9, h27, h33, h41]) ha hnow hfl) (And.intro rfl (And.intro rfl (And.intro rfl (And.intro rfl (And.intro rfl (And.intro rfl trivial))))))
        · refine xa_iconst (pc := 44) (v := 1) dX7_contend_44 (by decide) ?_
          refine xa_goto (pc := 45) (tgt := 49) dX7_contend_45 (by decide) ?_
          refine xa_istore (pc := 49) dX7_contend_49 (by decide) ?_
          refine xa_iload (pc := 51) dX7_contend_51 rfl ?_
          refine xa_if_eq (pc := 53) 155 dX7_contend_53 (by decide) (fun hc => absurd hc (by decide)) (fun _ => ?_)
          refine xa_aload_n (pc := 56) dX7_contend_56 rfl ?_
          refine xa_aload_n (pc := 57) dX7_contend_57 rfl ?_
          refine xa_aload (pc := 58) dX7_contend_58 rfl ?_
          refine xa_callV (pc := 60) hX.c_m129 (kd_129 _) rfl lcX7_331 dX7_contend_60 (cx_speaksFor E hX hh ha (by omega)) rfl rfl (by decide) (Nat.le_of_ble_eq_true rfl) (by decide) ?_
          rintro _ _ _ ⟨rfl, rfl, rfl⟩
          refine xa_if_eq (pc := 63) 155 dX7_contend_63 (by decide) (fun h63 => ?_) (fun h63 => ?_)
          · have h63 := xa_b_0.mp h63
            refine xa_iinc (pc := 155) (v := nI (x + 1)) dX7_contend_155 rfl (by decide) (nI_1 _) ?_
            refine xa_goto (pc := 158) (tgt := 3) dX7_contend_158 (by decide) ?_
            exact xa_fgk (ih (by omega) _ _ hX (by rw [xa_lp, ← eU]; simp [xm_ht1, h9, h27, h33, h41, h63]) ha hnow hfl) (And.intro rfl (And.intro rfl (And.intro rfl (And.intro rfl (And.intro rfl (And.intro rfl trivial))))))
          · have h63 := xa_b_n0.mp h63
            refine xa_aload_n (pc := 66) dX7_contend_66 rfl ?_
            refine xa_aload_n (pc := 67) dX7_contend_67 rfl ?_
            refine xa_aload (pc := 68) dX7_contend_68 rfl ?_
            refine xa_callV (pc := 70) hX.c_m129 (kd_129 _) rfl lcX7_450 dX7_contend_70 (cx_isStronger E hX hs (by omega)) rfl rfl (by decide) (Nat.le_of_ble_eq_true rfl) (by decide) ?_
            rintro _ _ _ ⟨rfl, rfl, rfl⟩
            refine xa_istore (pc := 73) dX7_contend_73 (by decide) ?_
            refine xa_aload (pc := 75) dX7_contend_75 rfl ?_
            refine xa_getIv (pc := 77) 5 7 _ lfX7_59 dX7_contend_77 (hX.sM (by omega)) (kd_128 _) rfl (hX.s_state (by omega)) ?_
            refine xa_iconst (pc := 80) (v := 1) dX7_contend_80 (by decide) ?_
            refine xa_icmp_ne (pc := 81) 103 dX7_contend_81 (by decide) (fun h81 => ?_) (fun h81 => ?_)
            · refine xa_aload (pc := 103) dX7_contend_103 rfl ?_
              refine xa_getIv (pc := 105) 5 7 _ lfX7_59 dX7_contend_105 (hX.sM (by omega)) (kd_128 _) rfl (hX.s_state (by omega)) ?_
              refine xa_iconst (pc := 108) (v := 2) dX7_contend_108 (by decide) ?_
              refine xa_icmp_ne (pc := 109) 131 dX7_contend_109 (by decide) (fun h109 => ?_) (fun h109 => ?_)
              · refine xa_aload (pc := 131) dX7_contend_131 rfl ?_
                refine xa_getIv (pc := 133) 5 7 _ lfX7_59 dX7_contend_133 (hX.sM (by omega)) (kd_128 _) rfl (hX.s_state (by omega)) ?_
                refine xa_iconst (pc := 136) (v := 2) dX7_contend_136 (by decide) ?_
                refine xa_icmp_ne (pc := 137) 155 dX7_contend_137 (by decide) (fun h137 => ?_) (fun h137 => ?_)
                · refine xa_iinc (pc := 155) (v := nI (x + 1)) dX7_contend_155 rfl (by decide) (nI_1 _) ?_
                  refine xa_goto (pc := 158) (tgt := 3) dX7_contend_158 (by decide) ?_
                  have hz : U 151 x = 0 := by
                    rcases hX.is_is (s := x) (by omega) with q | q | q
                    · exact q
                    · exact absurd q h81
                    · exact absurd q h137
                  exfalso; simp [xm_spk, hz] at h63
                · refine xa_aload_n (pc := 140) dX7_contend_140 rfl ?_
                  refine xa_getA (pc := 141) 3 6 (ci h 9) lfX7_143 dX7_contend_141 ((hX.hS hh).1 0 (by decide)) (kd_0 _) rfl ((hX.hS hh).2 (0, 6, 9) (by decide)) ?_
                  refine xa_iload (pc := 144) dX7_contend_144 rfl ?_
                  refine xa_aload_n (pc := 146) dX7_contend_146 rfl ?_
                  refine xa_getIv (pc := 147) 7 4 _ lfX7_62 dX7_contend_147 hX.c_m129 (kd_129 _) rfl hX.g_now ?_
                  refine xa_iconst (pc := 150) (v := 1) dX7_contend_150 (by decide) ?_
                  refine xa_iadd (pc := 151) dX7_contend_151 ?_
                  refine xa_callV (pc := 152) ((hX.hS hh).1 9 (by decide)) (kd_9 _) rfl lcX7_434 dX7_contend_152 (cx_comeDue E (hX.hS hh) (s := x) rfl (by omega) _) rfl rfl (by decide) (Nat.le_of_ble_eq_true rfl) (by decide) ?_
                  rintro _ _ _ ⟨rfl, rfl, rfl⟩
                  refine xa_iinc (pc := 155) (v := nI (x + 1)) dX7_contend_155 rfl (by decide) (nI_1 _) ?_
                  refine xa_goto (pc := 158) (tgt := 3) dX7_contend_158 (by decide) ?_
                  rw [hnow]
                  exact xa_fgk (ih (by omega) _ _ (rx_due hX hh (by omega) (t1_in (hnow ▸ hX.ig_t))) (by rw [xa_lp, ← eU]; first | (simp [xm_ht1, h9, h27, h33, h41, h63, h81, h109, h137]; done) | (exfalso; first | exact h109 h137 | exact absurd (h81.symm.trans h137) (by decide))) (by rw [due_a (by decide)]; exact ha) (by rw [due_a (by decide)]; exact hnow) (fl_due hfl)) (And.intro rfl (And.intro rfl (And.intro rfl (And.intro rfl (And.intro rfl (And.intro rfl trivial))))))
              · refine xa_iload (pc := 112) dX7_contend_112 rfl ?_
                refine xa_if_eq (pc := 114) 131 dX7_contend_114 (by decide) (fun hc => absurd hc (by decide)) (fun _ => ?_)
                refine xa_iload (pc := 117) dX7_contend_117 rfl ?_
                refine xa_if_eq (pc := 119) 131 dX7_contend_119 (by decide) (fun h119 => ?_) (fun h119 => ?_)
                · have h119 := xa_b_0.mp h119
                  refine xa_aload (pc := 131) dX7_contend_131 rfl ?_
                  refine xa_getIv (pc := 133) 5 7 _ lfX7_59 dX7_contend_133 (hX.sM (by omega)) (kd_128 _) rfl (hX.s_state (by omega)) ?_
                  refine xa_iconst (pc := 136) (v := 2) dX7_contend_136 (by decide) ?_
                  refine xa_icmp_ne (pc := 137) 155 dX7_contend_137 (by decide) (fun h137 => ?_) (fun h137 => ?_)
                  · refine xa_iinc (pc := 155) (v := nI (x + 1)) dX7_contend_155 rfl (by decide) (nI_1 _) ?_
                    refine xa_goto (pc := 158) (tgt := 3) dX7_contend_158 (by decide) ?_
                    have hz : U 151 x = 0 := by
                      rcases hX.is_is (s := x) (by omega) with q | q | q
                      · exact q
                      · exact absurd q h81
                      · exact absurd q h137
                    exfalso; simp [xm_spk, hz] at h63
                  · refine xa_aload_n (pc := 140) dX7_contend_140 rfl ?_
                    refine xa_getA (pc := 141) 3 6 (ci h 9) lfX7_143 dX7_contend_141 ((hX.hS hh).1 0 (by decide)) (kd_0 _) rfl ((hX.hS hh).2 (0, 6, 9) (by decide)) ?_
                    refine xa_iload (pc := 144) dX7_contend_144 rfl ?_
                    refine xa_aload_n (pc := 146) dX7_contend_146 rfl ?_
                    refine xa_getIv (pc := 147) 7 4 _ lfX7_62 dX7_contend_147 hX.c_m129 (kd_129 _) rfl hX.g_now ?_
                    refine xa_iconst (pc := 150) (v := 1) dX7_contend_150 (by decide) ?_
                    refine xa_iadd (pc := 151) dX7_contend_151 ?_
                    refine xa_callV (pc := 152) ((hX.hS hh).1 9 (by decide)) (kd_9 _) rfl lcX7_434 dX7_contend_152 (cx_comeDue E (hX.hS hh) (s := x) rfl (by omega) _) rfl rfl (by decide) (Nat.le_of_ble_eq_true rfl) (by decide) ?_
                    rintro _ _ _ ⟨rfl, rfl, rfl⟩
                    refine xa_iinc (pc := 155) (v := nI (x + 1)) dX7_contend_155 rfl (by decide) (nI_1 _) ?_
                    refine xa_goto (pc := 158) (tgt := 3) dX7_contend_158 (by decide) ?_
                    rw [hnow]
                    exact xa_fgk (ih (by omega) _ _ (rx_due hX hh (by omega) (t1_in (hnow ▸ hX.ig_t))) (by rw [xa_lp, ← eU]; first | (simp [xm_ht1, h9, h27, h33, h41, h63, h81, h109, h119, h137]; done) | (exfalso; first | exact h109 h137 | exact absurd (h81.symm.trans h137) (by decide))) (by rw [due_a (by decide)]; exact ha) (by rw [due_a (by decide)]; exact hnow) (fl_due hfl)) (And.intro rfl (And.intro rfl (And.intro rfl (And.intro rfl (And.intro rfl (And.intro rfl trivial))))))
                · have h119 := xa_b_n0.mp h119
                  refine xa_aload_n (pc := 122) dX7_contend_122 rfl ?_
                  refine xa_aload (pc := 123) dX7_contend_123 rfl ?_
                  refine xa_callV (pc := 125) hX.c_m129 (kd_129 _) rfl lcX7_460 dX7_contend_125 (cx_giveWay E hX (by omega) (by simp [h9, h27, h33, h41, h63, h81, h109, h119]) (by assumption)) rfl rfl (by decide) (Nat.le_of_ble_eq_true rfl) (by decide) ?_
                  rintro _ _ _ ⟨rfl, rfl, hX2, hfl2⟩
                  refine xa_goto (pc := 128) (tgt := 155) dX7_contend_128 (by decide) ?_
                  refine xa_iinc (pc := 155) (v := nI (x + 1)) dX7_contend_155 rfl (by decide) (nI_1 _) ?_
                  refine xa_goto (pc := 158) (tgt := 3) dX7_contend_158 (by decide) ?_
                  exact xa_fgk (ih (by omega) _ _ hX2 (by rw [xa_lp, ← eU]; simp [xm_ht1, h9, h27, h33, h41, h63, h81, h109, h119]) (yld_136 ha) (yld_36.trans hnow) (fl_tr hfl hfl2)) (And.intro rfl (And.intro rfl (And.intro rfl (And.intro rfl (And.intro rfl (And.intro rfl trivial))))))
            · refine xa_iload (pc := 84) dX7_contend_84 rfl ?_
              refine xa_if_ne (pc := 86) 94 dX7_contend_86 (by decide) (fun _ => ?_) (fun hc => absurd hc (by decide))
              refine xa_aload_n (pc := 94) dX7_contend_94 rfl ?_
              refine xa_aload (pc := 95) dX7_contend_95 rfl ?_
              refine xa_callV (pc := 97) hX.c_m129 (kd_129 _) rfl lcX7_460 dX7_contend_97 (cx_giveWay E hX (by omega) (by simp [h9, h27, h33, h41, h63, h81]) (by assumption)) rfl rfl (by decide) (Nat.le_of_ble_eq_true rfl) (by decide) ?_
              rintro _ _ _ ⟨rfl, rfl, hX2, hfl2⟩
              refine xa_goto (pc := 100) (tgt := 155) dX7_contend_100 (by decide) ?_
              refine xa_iinc (pc := 155) (v := nI (x + 1)) dX7_contend_155 rfl (by decide) (nI_1 _) ?_
              refine xa_goto (pc := 158) (tgt := 3) dX7_contend_158 (by decide) ?_
              exact xa_fgk (ih (by omega) _ _ hX2 (by rw [xa_lp, ← eU]; simp [xm_ht1, h9, h27, h33, h41, h63, h81]) (yld_136 ha) (yld_36.trans hnow) (fl_tr hfl hfl2)) (And.intro rfl (And.intro rfl (And.intro rfl (And.intro rfl (And.intro rfl (And.intro rfl trivial))))))
set_option maxHeartbeats 4000000 in
theorem cx_contend1 (E : xa_EV) {L : List Nat} {T : xa_AH} {R : xa_AR} {nh ns k : Nat} {pw : Nat → Nat} {S : xa_AH} (hX : RX nh ns k pw L T R S) {h s : Nat} (hh : h < nh) (ha : S 136 h = 2) (hs : s < ns) (n : Int32) : xa_Ct E mX7_contend [.ref (ci 0 129), .ref (ci h 0), .ref (ci s 128), .int n, .int 1] L T R (PF nh ns k pw L T R (xa_lp (xm_ht1 ns h s n (S 130 36)) ns S)) := by
  refine xa_Ct.of [some (.ref (ci 0 129)), some (.ref (ci h 0)), some (.ref (ci s 128)), some (.int n), some (.int 1), none, none, none, none] rfl (Nat.le_of_ble_eq_true rfl) (by simp [Value.category]) rfl ?_
  have n12 := hX.n12
  have n32 := hX.n32
  refine xa_iconst (pc := 0) (v := 0) dX7_contend_0 (by decide) ?_
  refine xa_istore (pc := 1) dX7_contend_1 (by decide) ?_
  exact lx_contend1 E hh hs n (S 130 36) 0 (Nat.zero_le _) _ _ hX rfl ha rfl fl_rf
